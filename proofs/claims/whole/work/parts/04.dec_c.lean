theorem dX4_init_0 : decode cX4_init 0 = .ok (.aload_n 0, 1) := by decide +kernel
theorem dX4_init_1 : decode cX4_init 1 = .ok (.invokespecial 3, 3) := by decide +kernel
theorem dX4_init_4 : decode cX4_init 4 = .ok (.aload_n 0, 1) := by decide +kernel
theorem dX4_init_5 : decode cX4_init 5 = .ok (.bipush 109, 2) := by decide +kernel
theorem dX4_init_7 : decode cX4_init 7 = .ok (.newarray .int, 2) := by decide +kernel
theorem dX4_init_9 : decode cX4_init 9 = .ok (.putfield 9, 3) := by decide +kernel
theorem dX4_init_12 : decode cX4_init 12 = .ok (.aload_n 0, 1) := by decide +kernel
theorem dX4_init_13 : decode cX4_init 13 = .ok (.bipush 109, 2) := by decide +kernel
theorem dX4_init_15 : decode cX4_init 15 = .ok (.newarray .int, 2) := by decide +kernel
theorem dX4_init_17 : decode cX4_init 17 = .ok (.putfield 13, 3) := by decide +kernel
theorem dX4_init_20 : decode cX4_init 20 = .ok (.aload_n 0, 1) := by decide +kernel
theorem dX4_init_21 : decode cX4_init 21 = .ok (.bipush 109, 2) := by decide +kernel
theorem dX4_init_23 : decode cX4_init 23 = .ok (.newarray .int, 2) := by decide +kernel
theorem dX4_init_25 : decode cX4_init 25 = .ok (.putfield 16, 3) := by decide +kernel
theorem dX4_init_28 : decode cX4_init 28 = .ok (.aload_n 0, 1) := by decide +kernel
theorem dX4_init_29 : decode cX4_init 29 = .ok (.bipush 109, 2) := by decide +kernel
theorem dX4_init_31 : decode cX4_init 31 = .ok (.newarray .int, 2) := by decide +kernel
theorem dX4_init_33 : decode cX4_init 33 = .ok (.putfield 19, 3) := by decide +kernel
theorem dX4_init_36 : decode cX4_init 36 = .ok (.aload_n 0, 1) := by decide +kernel
theorem dX4_init_37 : decode cX4_init 37 = .ok (.bipush 7, 2) := by decide +kernel
theorem dX4_init_39 : decode cX4_init 39 = .ok (.newarray .int, 2) := by decide +kernel
theorem dX4_init_41 : decode cX4_init 41 = .ok (.putfield 22, 3) := by decide +kernel
theorem dX4_init_44 : decode cX4_init 44 = .ok (.aload_n 0, 1) := by decide +kernel
theorem dX4_init_45 : decode cX4_init 45 = .ok (.bipush 120, 2) := by decide +kernel
theorem dX4_init_47 : decode cX4_init 47 = .ok (.newarray .int, 2) := by decide +kernel
theorem dX4_init_49 : decode cX4_init 49 = .ok (.putfield 25, 3) := by decide +kernel
theorem dX4_init_52 : decode cX4_init 52 = .ok (.aload_n 0, 1) := by decide +kernel
theorem dX4_init_53 : decode cX4_init 53 = .ok (.iconst 4, 1) := by decide +kernel
theorem dX4_init_54 : decode cX4_init 54 = .ok (.newarray .int, 2) := by decide +kernel
theorem dX4_init_56 : decode cX4_init 56 = .ok (.putfield 28, 3) := by decide +kernel
theorem dX4_init_59 : decode cX4_init 59 = .ok (.aload_n 0, 1) := by decide +kernel
theorem dX4_init_60 : decode cX4_init 60 = .ok (.iconst 4, 1) := by decide +kernel
theorem dX4_init_61 : decode cX4_init 61 = .ok (.newarray .int, 2) := by decide +kernel
theorem dX4_init_63 : decode cX4_init 63 = .ok (.putfield 31, 3) := by decide +kernel
theorem dX4_init_66 : decode cX4_init 66 = .ok (.aload_n 0, 1) := by decide +kernel
theorem dX4_init_67 : decode cX4_init 67 = .ok (.sipush 160, 3) := by decide +kernel
theorem dX4_init_70 : decode cX4_init 70 = .ok (.newarray .int, 2) := by decide +kernel
theorem dX4_init_72 : decode cX4_init 72 = .ok (.putfield 34, 3) := by decide +kernel
theorem dX4_init_75 : decode cX4_init 75 = .ok (.aload_n 0, 1) := by decide +kernel
theorem dX4_init_76 : decode cX4_init 76 = .ok (.getfield 9, 3) := by decide +kernel
theorem dX4_init_79 : decode cX4_init 79 = .ok (.iconst 2, 1) := by decide +kernel
theorem dX4_init_80 : decode cX4_init 80 = .ok (.iconst 3, 1) := by decide +kernel
theorem dX4_init_81 : decode cX4_init 81 = .ok (.iastore, 1) := by decide +kernel
theorem dX4_init_82 : decode cX4_init 82 = .ok (.aload_n 0, 1) := by decide +kernel
theorem dX4_init_83 : decode cX4_init 83 = .ok (.getfield 9, 3) := by decide +kernel
theorem dX4_init_86 : decode cX4_init 86 = .ok (.iconst 3, 1) := by decide +kernel
theorem dX4_init_87 : decode cX4_init 87 = .ok (.bipush 50, 2) := by decide +kernel
theorem dX4_init_89 : decode cX4_init 89 = .ok (.iastore, 1) := by decide +kernel
theorem dX4_init_90 : decode cX4_init 90 = .ok (.aload_n 0, 1) := by decide +kernel
theorem dX4_init_91 : decode cX4_init 91 = .ok (.getfield 9, 3) := by decide +kernel
theorem dX4_init_94 : decode cX4_init 94 = .ok (.iconst 5, 1) := by decide +kernel
theorem dX4_init_95 : decode cX4_init 95 = .ok (.iconst 1, 1) := by decide +kernel
theorem dX4_init_96 : decode cX4_init 96 = .ok (.iastore, 1) := by decide +kernel
theorem dX4_init_97 : decode cX4_init 97 = .ok (.iconst 0, 1) := by decide +kernel
theorem dX4_init_98 : decode cX4_init 98 = .ok (.istore_n 1, 1) := by decide +kernel
theorem dX4_init_99 : decode cX4_init 99 = .ok (.iload_n 1, 1) := by decide +kernel
theorem dX4_init_100 : decode cX4_init 100 = .ok (.bipush 8, 2) := by decide +kernel
theorem dX4_init_102 : decode cX4_init 102 = .ok (.if_icmp .ge 19, 3) := by decide +kernel
theorem dX4_init_105 : decode cX4_init 105 = .ok (.aload_n 0, 1) := by decide +kernel
theorem dX4_init_106 : decode cX4_init 106 = .ok (.getfield 9, 3) := by decide +kernel
theorem dX4_init_109 : decode cX4_init 109 = .ok (.bipush 7, 2) := by decide +kernel
theorem dX4_init_111 : decode cX4_init 111 = .ok (.iload_n 1, 1) := by decide +kernel
theorem dX4_init_112 : decode cX4_init 112 = .ok (.iadd, 1) := by decide +kernel
theorem dX4_init_113 : decode cX4_init 113 = .ok (.iconst 3, 1) := by decide +kernel
theorem dX4_init_114 : decode cX4_init 114 = .ok (.iastore, 1) := by decide +kernel
theorem dX4_init_115 : decode cX4_init 115 = .ok (.iinc 1 1, 3) := by decide +kernel
theorem dX4_init_118 : decode cX4_init 118 = .ok (.goto (-19), 3) := by decide +kernel
theorem dX4_init_121 : decode cX4_init 121 = .ok (.iconst 0, 1) := by decide +kernel
theorem dX4_init_122 : decode cX4_init 122 = .ok (.istore_n 1, 1) := by decide +kernel
theorem dX4_init_123 : decode cX4_init 123 = .ok (.iload_n 1, 1) := by decide +kernel
theorem dX4_init_124 : decode cX4_init 124 = .ok (.bipush 10, 2) := by decide +kernel
theorem dX4_init_126 : decode cX4_init 126 = .ok (.if_icmp .ge 19, 3) := by decide +kernel
theorem dX4_init_129 : decode cX4_init 129 = .ok (.aload_n 0, 1) := by decide +kernel
theorem dX4_init_130 : decode cX4_init 130 = .ok (.getfield 9, 3) := by decide +kernel
theorem dX4_init_133 : decode cX4_init 133 = .ok (.bipush 99, 2) := by decide +kernel
theorem dX4_init_135 : decode cX4_init 135 = .ok (.iload_n 1, 1) := by decide +kernel
theorem dX4_init_136 : decode cX4_init 136 = .ok (.iadd, 1) := by decide +kernel
theorem dX4_init_137 : decode cX4_init 137 = .ok (.iconst (-1), 1) := by decide +kernel
theorem dX4_init_138 : decode cX4_init 138 = .ok (.iastore, 1) := by decide +kernel
theorem dX4_init_139 : decode cX4_init 139 = .ok (.iinc 1 1, 3) := by decide +kernel
theorem dX4_init_142 : decode cX4_init 142 = .ok (.goto (-19), 3) := by decide +kernel
theorem dX4_init_145 : decode cX4_init 145 = .ok (.return_, 1) := by decide +kernel
theorem dX4_finds_0 : decode cX4_finds 0 = .ok (.aload_n 0, 1) := by decide +kernel
theorem dX4_finds_1 : decode cX4_finds 1 = .ok (.getfield 22, 3) := by decide +kernel
theorem dX4_finds_4 : decode cX4_finds 4 = .ok (.ldc 37, 2) := by decide +kernel
theorem dX4_finds_6 : decode cX4_finds 6 = .ok (.iload_n 1, 1) := by decide +kernel
theorem dX4_finds_7 : decode cX4_finds 7 = .ok (.isub, 1) := by decide +kernel
theorem dX4_finds_8 : decode cX4_finds 8 = .ok (.dup2, 1) := by decide +kernel
theorem dX4_finds_9 : decode cX4_finds 9 = .ok (.iaload, 1) := by decide +kernel
theorem dX4_finds_10 : decode cX4_finds 10 = .ok (.iconst 1, 1) := by decide +kernel
theorem dX4_finds_11 : decode cX4_finds 11 = .ok (.iadd, 1) := by decide +kernel
theorem dX4_finds_12 : decode cX4_finds 12 = .ok (.iastore, 1) := by decide +kernel
theorem dX4_finds_13 : decode cX4_finds 13 = .ok (.iload_n 1, 1) := by decide +kernel
theorem dX4_finds_14 : decode cX4_finds 14 = .ok (.ireturn, 1) := by decide +kernel
theorem dX4_orNone_0 : decode cX4_orNone 0 = .ok (.iload_n 1, 1) := by decide +kernel
theorem dX4_orNone_1 : decode cX4_orNone 1 = .ok (.ifCond .ge 12, 3) := by decide +kernel
theorem dX4_orNone_4 : decode cX4_orNone 4 = .ok (.aload_n 0, 1) := by decide +kernel
theorem dX4_orNone_5 : decode cX4_orNone 5 = .ok (.ldc 38, 2) := by decide +kernel
theorem dX4_orNone_7 : decode cX4_orNone 7 = .ok (.invokevirtual 39, 3) := by decide +kernel
theorem dX4_orNone_10 : decode cX4_orNone 10 = .ok (.goto 4, 3) := by decide +kernel
theorem dX4_orNone_13 : decode cX4_orNone 13 = .ok (.iload_n 1, 1) := by decide +kernel
theorem dX4_orNone_14 : decode cX4_orNone 14 = .ok (.ireturn, 1) := by decide +kernel
theorem dX4_in_0 : decode cX4_in 0 = .ok (.lload_n 0, 1) := by decide +kernel
theorem dX4_in_1 : decode cX4_in 1 = .ok (.lload_n 2, 1) := by decide +kernel
theorem dX4_in_2 : decode cX4_in 2 = .ok (.lcmp, 1) := by decide +kernel
theorem dX4_in_3 : decode cX4_in 3 = .ok (.ifCond .lt 14, 3) := by decide +kernel
theorem dX4_in_6 : decode cX4_in 6 = .ok (.lload_n 0, 1) := by decide +kernel
theorem dX4_in_7 : decode cX4_in 7 = .ok (.lload 4, 2) := by decide +kernel
theorem dX4_in_9 : decode cX4_in 9 = .ok (.lcmp, 1) := by decide +kernel
theorem dX4_in_10 : decode cX4_in 10 = .ok (.ifCond .gt 7, 3) := by decide +kernel
theorem dX4_in_13 : decode cX4_in 13 = .ok (.iconst 1, 1) := by decide +kernel
theorem dX4_in_14 : decode cX4_in 14 = .ok (.goto 4, 3) := by decide +kernel
theorem dX4_in_17 : decode cX4_in 17 = .ok (.iconst 0, 1) := by decide +kernel
theorem dX4_in_18 : decode cX4_in 18 = .ok (.ireturn, 1) := by decide +kernel
theorem dX4_has_0 : decode cX4_has 0 = .ok (.iload_n 0, 1) := by decide +kernel
theorem dX4_has_1 : decode cX4_has 1 = .ok (.iload_n 1, 1) := by decide +kernel
theorem dX4_has_2 : decode cX4_has 2 = .ok (.ishr, 1) := by decide +kernel
theorem dX4_has_3 : decode cX4_has 3 = .ok (.iconst 1, 1) := by decide +kernel
theorem dX4_has_4 : decode cX4_has 4 = .ok (.iand, 1) := by decide +kernel
theorem dX4_has_5 : decode cX4_has 5 = .ok (.iconst 1, 1) := by decide +kernel
theorem dX4_has_6 : decode cX4_has 6 = .ok (.if_icmp .ne 7, 3) := by decide +kernel
theorem dX4_has_9 : decode cX4_has 9 = .ok (.iconst 1, 1) := by decide +kernel
theorem dX4_has_10 : decode cX4_has 10 = .ok (.goto 4, 3) := by decide +kernel
theorem dX4_has_13 : decode cX4_has 13 = .ok (.iconst 0, 1) := by decide +kernel
theorem dX4_has_14 : decode cX4_has 14 = .ok (.ireturn, 1) := by decide +kernel
theorem dX4_many_0 : decode cX4_many 0 = .ok (.iconst 0, 1) := by decide +kernel
theorem dX4_many_1 : decode cX4_many 1 = .ok (.istore_n 1, 1) := by decide +kernel
theorem dX4_many_2 : decode cX4_many 2 = .ok (.iconst 0, 1) := by decide +kernel
theorem dX4_many_3 : decode cX4_many 3 = .ok (.istore_n 2, 1) := by decide +kernel
theorem dX4_many_4 : decode cX4_many 4 = .ok (.iload_n 2, 1) := by decide +kernel
theorem dX4_many_5 : decode cX4_many 5 = .ok (.bipush 12, 2) := by decide +kernel
theorem dX4_many_7 : decode cX4_many 7 = .ok (.if_icmp .ge 17, 3) := by decide +kernel
theorem dX4_many_10 : decode cX4_many 10 = .ok (.iload_n 1, 1) := by decide +kernel
theorem dX4_many_11 : decode cX4_many 11 = .ok (.iload_n 0, 1) := by decide +kernel
theorem dX4_many_12 : decode cX4_many 12 = .ok (.iload_n 2, 1) := by decide +kernel
theorem dX4_many_13 : decode cX4_many 13 = .ok (.ishr, 1) := by decide +kernel
theorem dX4_many_14 : decode cX4_many 14 = .ok (.iconst 1, 1) := by decide +kernel
theorem dX4_many_15 : decode cX4_many 15 = .ok (.iand, 1) := by decide +kernel
theorem dX4_many_16 : decode cX4_many 16 = .ok (.iadd, 1) := by decide +kernel
theorem dX4_many_17 : decode cX4_many 17 = .ok (.istore_n 1, 1) := by decide +kernel
theorem dX4_many_18 : decode cX4_many 18 = .ok (.iinc 2 1, 3) := by decide +kernel
theorem dX4_many_21 : decode cX4_many 21 = .ok (.goto (-17), 3) := by decide +kernel
theorem dX4_many_24 : decode cX4_many 24 = .ok (.iload_n 1, 1) := by decide +kernel
theorem dX4_many_25 : decode cX4_many 25 = .ok (.ireturn, 1) := by decide +kernel
theorem dX4_row_0 : decode cX4_row 0 = .ok (.iconst 0, 1) := by decide +kernel
theorem dX4_row_1 : decode cX4_row 1 = .ok (.istore_n 2, 1) := by decide +kernel
theorem dX4_row_2 : decode cX4_row 2 = .ok (.iload_n 2, 1) := by decide +kernel
theorem dX4_row_3 : decode cX4_row 3 = .ok (.bipush 109, 2) := by decide +kernel
theorem dX4_row_5 : decode cX4_row 5 = .ok (.if_icmp .ge 15, 3) := by decide +kernel
theorem dX4_row_8 : decode cX4_row 8 = .ok (.aload_n 1, 1) := by decide +kernel
theorem dX4_row_9 : decode cX4_row 9 = .ok (.iload_n 2, 1) := by decide +kernel
theorem dX4_row_10 : decode cX4_row 10 = .ok (.aload_n 0, 1) := by decide +kernel
theorem dX4_row_11 : decode cX4_row 11 = .ok (.iload_n 2, 1) := by decide +kernel
theorem dX4_row_12 : decode cX4_row 12 = .ok (.iaload, 1) := by decide +kernel
theorem dX4_row_13 : decode cX4_row 13 = .ok (.iastore, 1) := by decide +kernel
theorem dX4_row_14 : decode cX4_row 14 = .ok (.iinc 2 1, 3) := by decide +kernel
theorem dX4_row_17 : decode cX4_row 17 = .ok (.goto (-15), 3) := by decide +kernel
theorem dX4_row_20 : decode cX4_row 20 = .ok (.return_, 1) := by decide +kernel
theorem dX4_becomes_0 : decode cX4_becomes 0 = .ok (.aload_n 0, 1) := by decide +kernel
theorem dX4_becomes_1 : decode cX4_becomes 1 = .ok (.getfield 9, 3) := by decide +kernel
theorem dX4_becomes_4 : decode cX4_becomes 4 = .ok (.iload_n 1, 1) := by decide +kernel
theorem dX4_becomes_5 : decode cX4_becomes 5 = .ok (.iaload, 1) := by decide +kernel
theorem dX4_becomes_6 : decode cX4_becomes 6 = .ok (.istore_n 3, 1) := by decide +kernel
theorem dX4_becomes_7 : decode cX4_becomes 7 = .ok (.aload_n 0, 1) := by decide +kernel
theorem dX4_becomes_8 : decode cX4_becomes 8 = .ok (.getfield 9, 3) := by decide +kernel
theorem dX4_becomes_11 : decode cX4_becomes 11 = .ok (.iload_n 1, 1) := by decide +kernel
theorem dX4_becomes_12 : decode cX4_becomes 12 = .ok (.iload_n 2, 1) := by decide +kernel
theorem dX4_becomes_13 : decode cX4_becomes 13 = .ok (.iastore, 1) := by decide +kernel
theorem dX4_becomes_14 : decode cX4_becomes 14 = .ok (.iload_n 3, 1) := by decide +kernel
theorem dX4_becomes_15 : decode cX4_becomes 15 = .ok (.ireturn, 1) := by decide +kernel
theorem dX4_isRank_0 : decode cX4_isRank 0 = .ok (.iload_n 0, 1) := by decide +kernel
theorem dX4_isRank_1 : decode cX4_isRank 1 = .ok (.i2l, 1) := by decide +kernel
theorem dX4_isRank_2 : decode cX4_isRank 2 = .ok (.lconst 0, 1) := by decide +kernel
theorem dX4_isRank_3 : decode cX4_isRank 3 = .ok (.ldc2_w 43, 3) := by decide +kernel
theorem dX4_isRank_6 : decode cX4_isRank 6 = .ok (.invokestatic 45, 3) := by decide +kernel
theorem dX4_isRank_9 : decode cX4_isRank 9 = .ok (.ireturn, 1) := by decide +kernel
theorem dX4_isKind_0 : decode cX4_isKind 0 = .ok (.iload_n 0, 1) := by decide +kernel
theorem dX4_isKind_1 : decode cX4_isKind 1 = .ok (.i2l, 1) := by decide +kernel
theorem dX4_isKind_2 : decode cX4_isKind 2 = .ok (.lconst 0, 1) := by decide +kernel
theorem dX4_isKind_3 : decode cX4_isKind 3 = .ok (.ldc2_w 49, 3) := by decide +kernel
theorem dX4_isKind_6 : decode cX4_isKind 6 = .ok (.invokestatic 45, 3) := by decide +kernel
theorem dX4_isKind_9 : decode cX4_isKind 9 = .ok (.ireturn, 1) := by decide +kernel
theorem dX4_isPerson_0 : decode cX4_isPerson 0 = .ok (.iload_n 1, 1) := by decide +kernel
theorem dX4_isPerson_1 : decode cX4_isPerson 1 = .ok (.i2l, 1) := by decide +kernel
theorem dX4_isPerson_2 : decode cX4_isPerson 2 = .ok (.lconst 0, 1) := by decide +kernel
theorem dX4_isPerson_3 : decode cX4_isPerson 3 = .ok (.aload_n 0, 1) := by decide +kernel
theorem dX4_isPerson_4 : decode cX4_isPerson 4 = .ok (.getfield 9, 3) := by decide +kernel
theorem dX4_isPerson_7 : decode cX4_isPerson 7 = .ok (.bipush 6, 2) := by decide +kernel
theorem dX4_isPerson_9 : decode cX4_isPerson 9 = .ok (.iaload, 1) := by decide +kernel
theorem dX4_isPerson_10 : decode cX4_isPerson 10 = .ok (.iconst 1, 1) := by decide +kernel
theorem dX4_isPerson_11 : decode cX4_isPerson 11 = .ok (.isub, 1) := by decide +kernel
theorem dX4_isPerson_12 : decode cX4_isPerson 12 = .ok (.i2l, 1) := by decide +kernel
theorem dX4_isPerson_13 : decode cX4_isPerson 13 = .ok (.invokestatic 45, 3) := by decide +kernel
theorem dX4_isPerson_16 : decode cX4_isPerson 16 = .ok (.ireturn, 1) := by decide +kernel
theorem dX4_is_0 : decode cX4_is 0 = .ok (.aload_n 0, 1) := by decide +kernel
theorem dX4_is_1 : decode cX4_is 1 = .ok (.getfield 9, 3) := by decide +kernel
theorem dX4_is_4 : decode cX4_is 4 = .ok (.bipush 15, 2) := by decide +kernel
theorem dX4_is_6 : decode cX4_is 6 = .ok (.bipush 7, 2) := by decide +kernel
theorem dX4_is_8 : decode cX4_is 8 = .ok (.iload_n 1, 1) := by decide +kernel
theorem dX4_is_9 : decode cX4_is 9 = .ok (.imul, 1) := by decide +kernel
theorem dX4_is_10 : decode cX4_is 10 = .ok (.iadd, 1) := by decide +kernel
theorem dX4_is_11 : decode cX4_is 11 = .ok (.iload_n 2, 1) := by decide +kernel
theorem dX4_is_12 : decode cX4_is 12 = .ok (.iadd, 1) := by decide +kernel
theorem dX4_is_13 : decode cX4_is 13 = .ok (.iaload, 1) := by decide +kernel
theorem dX4_is_14 : decode cX4_is 14 = .ok (.ireturn, 1) := by decide +kernel
theorem dX4_makes_0 : decode cX4_makes 0 = .ok (.aload_n 0, 1) := by decide +kernel
theorem dX4_makes_1 : decode cX4_makes 1 = .ok (.getfield 9, 3) := by decide +kernel
theorem dX4_makes_4 : decode cX4_makes 4 = .ok (.bipush 15, 2) := by decide +kernel
theorem dX4_makes_6 : decode cX4_makes 6 = .ok (.bipush 7, 2) := by decide +kernel
theorem dX4_makes_8 : decode cX4_makes 8 = .ok (.iload_n 1, 1) := by decide +kernel
theorem dX4_makes_9 : decode cX4_makes 9 = .ok (.imul, 1) := by decide +kernel
theorem dX4_makes_10 : decode cX4_makes 10 = .ok (.iadd, 1) := by decide +kernel
theorem dX4_makes_11 : decode cX4_makes 11 = .ok (.iload_n 2, 1) := by decide +kernel
theorem dX4_makes_12 : decode cX4_makes 12 = .ok (.iadd, 1) := by decide +kernel
theorem dX4_makes_13 : decode cX4_makes 13 = .ok (.iload_n 3, 1) := by decide +kernel
theorem dX4_makes_14 : decode cX4_makes 14 = .ok (.iastore, 1) := by decide +kernel
theorem dX4_makes_15 : decode cX4_makes 15 = .ok (.return_, 1) := by decide +kernel
theorem dX4_isOut_0 : decode cX4_isOut 0 = .ok (.aload_n 0, 1) := by decide +kernel
theorem dX4_isOut_1 : decode cX4_isOut 1 = .ok (.iload_n 1, 1) := by decide +kernel
theorem dX4_isOut_2 : decode cX4_isOut 2 = .ok (.iconst 1, 1) := by decide +kernel
theorem dX4_isOut_3 : decode cX4_isOut 3 = .ok (.invokevirtual 51, 3) := by decide +kernel
theorem dX4_isOut_6 : decode cX4_isOut 6 = .ok (.iconst (-1), 1) := by decide +kernel
theorem dX4_isOut_7 : decode cX4_isOut 7 = .ok (.if_icmp .ne 7, 3) := by decide +kernel
theorem dX4_isOut_10 : decode cX4_isOut 10 = .ok (.iconst 1, 1) := by decide +kernel
theorem dX4_isOut_11 : decode cX4_isOut 11 = .ok (.goto 4, 3) := by decide +kernel
theorem dX4_isOut_14 : decode cX4_isOut 14 = .ok (.iconst 0, 1) := by decide +kernel
theorem dX4_isOut_15 : decode cX4_isOut 15 = .ok (.ireturn, 1) := by decide +kernel
theorem dX4_inRank_0 : decode cX4_inRank 0 = .ok (.iconst 0, 1) := by decide +kernel
theorem dX4_inRank_1 : decode cX4_inRank 1 = .ok (.istore_n 2, 1) := by decide +kernel
theorem dX4_inRank_2 : decode cX4_inRank 2 = .ok (.iconst 0, 1) := by decide +kernel
theorem dX4_inRank_3 : decode cX4_inRank 3 = .ok (.istore_n 3, 1) := by decide +kernel
theorem dX4_inRank_4 : decode cX4_inRank 4 = .ok (.iload_n 3, 1) := by decide +kernel
theorem dX4_inRank_5 : decode cX4_inRank 5 = .ok (.aload_n 0, 1) := by decide +kernel
theorem dX4_inRank_6 : decode cX4_inRank 6 = .ok (.getfield 9, 3) := by decide +kernel
theorem dX4_inRank_9 : decode cX4_inRank 9 = .ok (.bipush 6, 2) := by decide +kernel
theorem dX4_inRank_11 : decode cX4_inRank 11 = .ok (.iaload, 1) := by decide +kernel
theorem dX4_inRank_12 : decode cX4_inRank 12 = .ok (.if_icmp .ge 29, 3) := by decide +kernel
theorem dX4_inRank_15 : decode cX4_inRank 15 = .ok (.iload_n 2, 1) := by decide +kernel
theorem dX4_inRank_16 : decode cX4_inRank 16 = .ok (.aload_n 0, 1) := by decide +kernel
theorem dX4_inRank_17 : decode cX4_inRank 17 = .ok (.iload_n 3, 1) := by decide +kernel
theorem dX4_inRank_18 : decode cX4_inRank 18 = .ok (.iconst 1, 1) := by decide +kernel
theorem dX4_inRank_19 : decode cX4_inRank 19 = .ok (.invokevirtual 51, 3) := by decide +kernel
theorem dX4_inRank_22 : decode cX4_inRank 22 = .ok (.iload_n 1, 1) := by decide +kernel
theorem dX4_inRank_23 : decode cX4_inRank 23 = .ok (.if_icmp .ne 9, 3) := by decide +kernel
theorem dX4_inRank_26 : decode cX4_inRank 26 = .ok (.iconst 1, 1) := by decide +kernel
theorem dX4_inRank_27 : decode cX4_inRank 27 = .ok (.iload_n 3, 1) := by decide +kernel
theorem dX4_inRank_28 : decode cX4_inRank 28 = .ok (.ishl, 1) := by decide +kernel
theorem dX4_inRank_29 : decode cX4_inRank 29 = .ok (.goto 4, 3) := by decide +kernel
theorem dX4_inRank_32 : decode cX4_inRank 32 = .ok (.iconst 0, 1) := by decide +kernel
theorem dX4_inRank_33 : decode cX4_inRank 33 = .ok (.ior, 1) := by decide +kernel
theorem dX4_inRank_34 : decode cX4_inRank 34 = .ok (.istore_n 2, 1) := by decide +kernel
theorem dX4_inRank_35 : decode cX4_inRank 35 = .ok (.iinc 3 1, 3) := by decide +kernel
theorem dX4_inRank_38 : decode cX4_inRank 38 = .ok (.goto (-34), 3) := by decide +kernel
theorem dX4_inRank_41 : decode cX4_inRank 41 = .ok (.iload_n 2, 1) := by decide +kernel
theorem dX4_inRank_42 : decode cX4_inRank 42 = .ok (.ireturn, 1) := by decide +kernel
theorem dX4_counting_0 : decode cX4_counting 0 = .ok (.iconst 0, 1) := by decide +kernel
theorem dX4_counting_1 : decode cX4_counting 1 = .ok (.istore_n 2, 1) := by decide +kernel
theorem dX4_counting_2 : decode cX4_counting 2 = .ok (.iconst 0, 1) := by decide +kernel
theorem dX4_counting_3 : decode cX4_counting 3 = .ok (.istore_n 3, 1) := by decide +kernel
theorem dX4_counting_4 : decode cX4_counting 4 = .ok (.iload_n 3, 1) := by decide +kernel
theorem dX4_counting_5 : decode cX4_counting 5 = .ok (.aload_n 0, 1) := by decide +kernel
theorem dX4_counting_6 : decode cX4_counting 6 = .ok (.getfield 9, 3) := by decide +kernel
theorem dX4_counting_9 : decode cX4_counting 9 = .ok (.bipush 6, 2) := by decide +kernel
theorem dX4_counting_11 : decode cX4_counting 11 = .ok (.iaload, 1) := by decide +kernel
theorem dX4_counting_12 : decode cX4_counting 12 = .ok (.if_icmp .ge 40, 3) := by decide +kernel
theorem dX4_counting_15 : decode cX4_counting 15 = .ok (.iload_n 2, 1) := by decide +kernel
theorem dX4_counting_16 : decode cX4_counting 16 = .ok (.aload_n 0, 1) := by decide +kernel
theorem dX4_counting_17 : decode cX4_counting 17 = .ok (.iload_n 3, 1) := by decide +kernel
theorem dX4_counting_18 : decode cX4_counting 18 = .ok (.iconst 1, 1) := by decide +kernel
theorem dX4_counting_19 : decode cX4_counting 19 = .ok (.invokevirtual 51, 3) := by decide +kernel
theorem dX4_counting_22 : decode cX4_counting 22 = .ok (.iload_n 1, 1) := by decide +kernel
theorem dX4_counting_23 : decode cX4_counting 23 = .ok (.if_icmp .ne 20, 3) := by decide +kernel
theorem dX4_counting_26 : decode cX4_counting 26 = .ok (.aload_n 0, 1) := by decide +kernel
theorem dX4_counting_27 : decode cX4_counting 27 = .ok (.iload_n 3, 1) := by decide +kernel
theorem dX4_counting_28 : decode cX4_counting 28 = .ok (.iconst 0, 1) := by decide +kernel
theorem dX4_counting_29 : decode cX4_counting 29 = .ok (.invokevirtual 51, 3) := by decide +kernel
theorem dX4_counting_32 : decode cX4_counting 32 = .ok (.bipush 6, 2) := by decide +kernel
theorem dX4_counting_34 : decode cX4_counting 34 = .ok (.if_icmp .eq 9, 3) := by decide +kernel
theorem dX4_counting_37 : decode cX4_counting 37 = .ok (.iconst 1, 1) := by decide +kernel
theorem dX4_counting_38 : decode cX4_counting 38 = .ok (.iload_n 3, 1) := by decide +kernel
theorem dX4_counting_39 : decode cX4_counting 39 = .ok (.ishl, 1) := by decide +kernel
theorem dX4_counting_40 : decode cX4_counting 40 = .ok (.goto 4, 3) := by decide +kernel
theorem dX4_counting_43 : decode cX4_counting 43 = .ok (.iconst 0, 1) := by decide +kernel
theorem dX4_counting_44 : decode cX4_counting 44 = .ok (.ior, 1) := by decide +kernel
theorem dX4_counting_45 : decode cX4_counting 45 = .ok (.istore_n 2, 1) := by decide +kernel
theorem dX4_counting_46 : decode cX4_counting 46 = .ok (.iinc 3 1, 3) := by decide +kernel
theorem dX4_counting_49 : decode cX4_counting 49 = .ok (.goto (-45), 3) := by decide +kernel
theorem dX4_counting_52 : decode cX4_counting 52 = .ok (.iload_n 2, 1) := by decide +kernel
theorem dX4_counting_53 : decode cX4_counting 53 = .ok (.ireturn, 1) := by decide +kernel
theorem dX4_hasSeat_0 : decode cX4_hasSeat 0 = .ok (.aload_n 0, 1) := by decide +kernel
theorem dX4_hasSeat_1 : decode cX4_hasSeat 1 = .ok (.iload_n 1, 1) := by decide +kernel
theorem dX4_hasSeat_2 : decode cX4_hasSeat 2 = .ok (.invokevirtual 55, 3) := by decide +kernel
theorem dX4_hasSeat_5 : decode cX4_hasSeat 5 = .ok (.invokestatic 58, 3) := by decide +kernel
theorem dX4_hasSeat_8 : decode cX4_hasSeat 8 = .ok (.aload_n 0, 1) := by decide +kernel
theorem dX4_hasSeat_9 : decode cX4_hasSeat 9 = .ok (.getfield 9, 3) := by decide +kernel
theorem dX4_hasSeat_12 : decode cX4_hasSeat 12 = .ok (.bipush 7, 2) := by decide +kernel
theorem dX4_hasSeat_14 : decode cX4_hasSeat 14 = .ok (.iload_n 1, 1) := by decide +kernel
theorem dX4_hasSeat_15 : decode cX4_hasSeat 15 = .ok (.iadd, 1) := by decide +kernel
theorem dX4_hasSeat_16 : decode cX4_hasSeat 16 = .ok (.iaload, 1) := by decide +kernel
theorem dX4_hasSeat_17 : decode cX4_hasSeat 17 = .ok (.if_icmp .ge 7, 3) := by decide +kernel
theorem dX4_hasSeat_20 : decode cX4_hasSeat 20 = .ok (.iconst 1, 1) := by decide +kernel
theorem dX4_hasSeat_21 : decode cX4_hasSeat 21 = .ok (.goto 4, 3) := by decide +kernel
theorem dX4_hasSeat_24 : decode cX4_hasSeat 24 = .ok (.iconst 0, 1) := by decide +kernel
theorem dX4_hasSeat_25 : decode cX4_hasSeat 25 = .ok (.ireturn, 1) := by decide +kernel
theorem dX4_seats_0 : decode cX4_seats 0 = .ok (.iload_n 1, 1) := by decide +kernel
theorem dX4_seats_1 : decode cX4_seats 1 = .ok (.invokestatic 61, 3) := by decide +kernel
theorem dX4_seats_4 : decode cX4_seats 4 = .ok (.ifCond .eq 15, 3) := by decide +kernel
theorem dX4_seats_7 : decode cX4_seats 7 = .ok (.iload_n 2, 1) := by decide +kernel
theorem dX4_seats_8 : decode cX4_seats 8 = .ok (.i2l, 1) := by decide +kernel
theorem dX4_seats_9 : decode cX4_seats 9 = .ok (.lconst 0, 1) := by decide +kernel
theorem dX4_seats_10 : decode cX4_seats 10 = .ok (.ldc2_w 65, 3) := by decide +kernel
theorem dX4_seats_13 : decode cX4_seats 13 = .ok (.invokestatic 45, 3) := by decide +kernel
theorem dX4_seats_16 : decode cX4_seats 16 = .ok (.ifCond .ne 10, 3) := by decide +kernel
theorem dX4_seats_19 : decode cX4_seats 19 = .ok (.aload_n 0, 1) := by decide +kernel
theorem dX4_seats_20 : decode cX4_seats 20 = .ok (.ldc 37, 2) := by decide +kernel
theorem dX4_seats_22 : decode cX4_seats 22 = .ok (.invokevirtual 39, 3) := by decide +kernel
theorem dX4_seats_25 : decode cX4_seats 25 = .ok (.ireturn, 1) := by decide +kernel
theorem dX4_seats_26 : decode cX4_seats 26 = .ok (.aload_n 0, 1) := by decide +kernel
theorem dX4_seats_27 : decode cX4_seats 27 = .ok (.iload_n 1, 1) := by decide +kernel
theorem dX4_seats_28 : decode cX4_seats 28 = .ok (.invokevirtual 55, 3) := by decide +kernel
theorem dX4_seats_31 : decode cX4_seats 31 = .ok (.invokestatic 58, 3) := by decide +kernel
theorem dX4_seats_34 : decode cX4_seats 34 = .ok (.iload_n 2, 1) := by decide +kernel
theorem dX4_seats_35 : decode cX4_seats 35 = .ok (.if_icmp .le 12, 3) := by decide +kernel
theorem dX4_seats_38 : decode cX4_seats 38 = .ok (.aload_n 0, 1) := by decide +kernel
theorem dX4_seats_39 : decode cX4_seats 39 = .ok (.ldc 67, 2) := by decide +kernel
theorem dX4_seats_41 : decode cX4_seats 41 = .ok (.invokevirtual 39, 3) := by decide +kernel
theorem dX4_seats_44 : decode cX4_seats 44 = .ok (.goto 12, 3) := by decide +kernel
theorem dX4_seats_47 : decode cX4_seats 47 = .ok (.aload_n 0, 1) := by decide +kernel
theorem dX4_seats_48 : decode cX4_seats 48 = .ok (.bipush 7, 2) := by decide +kernel
theorem dX4_seats_50 : decode cX4_seats 50 = .ok (.iload_n 1, 1) := by decide +kernel
theorem dX4_seats_51 : decode cX4_seats 51 = .ok (.iadd, 1) := by decide +kernel
theorem dX4_seats_52 : decode cX4_seats 52 = .ok (.iload_n 2, 1) := by decide +kernel
theorem dX4_seats_53 : decode cX4_seats 53 = .ok (.invokevirtual 68, 3) := by decide +kernel
theorem dX4_seats_56 : decode cX4_seats 56 = .ok (.ireturn, 1) := by decide +kernel
theorem dX4_goldOf_0 : decode cX4_goldOf 0 = .ok (.iconst 0, 1) := by decide +kernel
theorem dX4_goldOf_1 : decode cX4_goldOf 1 = .ok (.istore_n 2, 1) := by decide +kernel
theorem dX4_goldOf_2 : decode cX4_goldOf 2 = .ok (.iconst 0, 1) := by decide +kernel
theorem dX4_goldOf_3 : decode cX4_goldOf 3 = .ok (.istore_n 3, 1) := by decide +kernel
theorem dX4_goldOf_4 : decode cX4_goldOf 4 = .ok (.iload_n 3, 1) := by decide +kernel
theorem dX4_goldOf_5 : decode cX4_goldOf 5 = .ok (.aload_n 0, 1) := by decide +kernel
theorem dX4_goldOf_6 : decode cX4_goldOf 6 = .ok (.getfield 9, 3) := by decide +kernel
theorem dX4_goldOf_9 : decode cX4_goldOf 9 = .ok (.bipush 6, 2) := by decide +kernel
theorem dX4_goldOf_11 : decode cX4_goldOf 11 = .ok (.iaload, 1) := by decide +kernel
theorem dX4_goldOf_12 : decode cX4_goldOf 12 = .ok (.if_icmp .ge 30, 3) := by decide +kernel
theorem dX4_goldOf_15 : decode cX4_goldOf 15 = .ok (.iload_n 2, 1) := by decide +kernel
theorem dX4_goldOf_16 : decode cX4_goldOf 16 = .ok (.iload_n 1, 1) := by decide +kernel
theorem dX4_goldOf_17 : decode cX4_goldOf 17 = .ok (.iload_n 3, 1) := by decide +kernel
theorem dX4_goldOf_18 : decode cX4_goldOf 18 = .ok (.invokestatic 71, 3) := by decide +kernel
theorem dX4_goldOf_21 : decode cX4_goldOf 21 = .ok (.ifCond .eq 12, 3) := by decide +kernel
theorem dX4_goldOf_24 : decode cX4_goldOf 24 = .ok (.aload_n 0, 1) := by decide +kernel
theorem dX4_goldOf_25 : decode cX4_goldOf 25 = .ok (.iload_n 3, 1) := by decide +kernel
theorem dX4_goldOf_26 : decode cX4_goldOf 26 = .ok (.iconst 4, 1) := by decide +kernel
theorem dX4_goldOf_27 : decode cX4_goldOf 27 = .ok (.invokevirtual 51, 3) := by decide +kernel
theorem dX4_goldOf_30 : decode cX4_goldOf 30 = .ok (.goto 4, 3) := by decide +kernel
theorem dX4_goldOf_33 : decode cX4_goldOf 33 = .ok (.iconst 0, 1) := by decide +kernel
theorem dX4_goldOf_34 : decode cX4_goldOf 34 = .ok (.iadd, 1) := by decide +kernel
theorem dX4_goldOf_35 : decode cX4_goldOf 35 = .ok (.istore_n 2, 1) := by decide +kernel
theorem dX4_goldOf_36 : decode cX4_goldOf 36 = .ok (.iinc 3 1, 3) := by decide +kernel
theorem dX4_goldOf_39 : decode cX4_goldOf 39 = .ok (.goto (-35), 3) := by decide +kernel
theorem dX4_goldOf_42 : decode cX4_goldOf 42 = .ok (.iload_n 2, 1) := by decide +kernel
theorem dX4_goldOf_43 : decode cX4_goldOf 43 = .ok (.ireturn, 1) := by decide +kernel
theorem dX4_rankOf_0 : decode cX4_rankOf 0 = .ok (.iload_n 1, 1) := by decide +kernel
theorem dX4_rankOf_1 : decode cX4_rankOf 1 = .ok (.invokestatic 61, 3) := by decide +kernel
theorem dX4_rankOf_4 : decode cX4_rankOf 4 = .ok (.ifCond .eq 15, 3) := by decide +kernel
theorem dX4_rankOf_7 : decode cX4_rankOf 7 = .ok (.iload_n 2, 1) := by decide +kernel
theorem dX4_rankOf_8 : decode cX4_rankOf 8 = .ok (.i2l, 1) := by decide +kernel
theorem dX4_rankOf_9 : decode cX4_rankOf 9 = .ok (.lconst 0, 1) := by decide +kernel
theorem dX4_rankOf_10 : decode cX4_rankOf 10 = .ok (.ldc2_w 65, 3) := by decide +kernel
theorem dX4_rankOf_13 : decode cX4_rankOf 13 = .ok (.invokestatic 45, 3) := by decide +kernel
theorem dX4_rankOf_16 : decode cX4_rankOf 16 = .ok (.ifCond .ne 10, 3) := by decide +kernel
theorem dX4_rankOf_19 : decode cX4_rankOf 19 = .ok (.aload_n 0, 1) := by decide +kernel
theorem dX4_rankOf_20 : decode cX4_rankOf 20 = .ok (.ldc 37, 2) := by decide +kernel
theorem dX4_rankOf_22 : decode cX4_rankOf 22 = .ok (.invokevirtual 39, 3) := by decide +kernel
theorem dX4_rankOf_25 : decode cX4_rankOf 25 = .ok (.ireturn, 1) := by decide +kernel
theorem dX4_rankOf_26 : decode cX4_rankOf 26 = .ok (.aload_n 0, 1) := by decide +kernel
theorem dX4_rankOf_27 : decode cX4_rankOf 27 = .ok (.iload_n 1, 1) := by decide +kernel
theorem dX4_rankOf_28 : decode cX4_rankOf 28 = .ok (.invokevirtual 55, 3) := by decide +kernel
theorem dX4_rankOf_31 : decode cX4_rankOf 31 = .ok (.istore_n 3, 1) := by decide +kernel
theorem dX4_rankOf_32 : decode cX4_rankOf 32 = .ok (.iload_n 2, 1) := by decide +kernel
theorem dX4_rankOf_33 : decode cX4_rankOf 33 = .ok (.ifCond .ne 15, 3) := by decide +kernel
theorem dX4_rankOf_36 : decode cX4_rankOf 36 = .ok (.aload_n 0, 1) := by decide +kernel
theorem dX4_rankOf_37 : decode cX4_rankOf 37 = .ok (.getfield 9, 3) := by decide +kernel
theorem dX4_rankOf_40 : decode cX4_rankOf 40 = .ok (.bipush 7, 2) := by decide +kernel
theorem dX4_rankOf_42 : decode cX4_rankOf 42 = .ok (.iload_n 1, 1) := by decide +kernel
theorem dX4_rankOf_43 : decode cX4_rankOf 43 = .ok (.iadd, 1) := by decide +kernel
theorem dX4_rankOf_44 : decode cX4_rankOf 44 = .ok (.iaload, 1) := by decide +kernel
theorem dX4_rankOf_45 : decode cX4_rankOf 45 = .ok (.goto 45, 3) := by decide +kernel
theorem dX4_rankOf_48 : decode cX4_rankOf 48 = .ok (.iload_n 2, 1) := by decide +kernel
theorem dX4_rankOf_49 : decode cX4_rankOf 49 = .ok (.iconst 1, 1) := by decide +kernel
theorem dX4_rankOf_50 : decode cX4_rankOf 50 = .ok (.if_icmp .ne 10, 3) := by decide +kernel
theorem dX4_rankOf_53 : decode cX4_rankOf 53 = .ok (.iload_n 3, 1) := by decide +kernel
theorem dX4_rankOf_54 : decode cX4_rankOf 54 = .ok (.invokestatic 58, 3) := by decide +kernel
theorem dX4_rankOf_57 : decode cX4_rankOf 57 = .ok (.goto 33, 3) := by decide +kernel
theorem dX4_rankOf_60 : decode cX4_rankOf 60 = .ok (.iload_n 2, 1) := by decide +kernel
theorem dX4_rankOf_61 : decode cX4_rankOf 61 = .ok (.iconst 2, 1) := by decide +kernel
theorem dX4_rankOf_62 : decode cX4_rankOf 62 = .ok (.if_icmp .ne 7, 3) := by decide +kernel
theorem dX4_rankOf_65 : decode cX4_rankOf 65 = .ok (.iload_n 3, 1) := by decide +kernel
theorem dX4_rankOf_66 : decode cX4_rankOf 66 = .ok (.goto 24, 3) := by decide +kernel
theorem dX4_rankOf_69 : decode cX4_rankOf 69 = .ok (.iload_n 2, 1) := by decide +kernel
theorem dX4_rankOf_70 : decode cX4_rankOf 70 = .ok (.iconst 3, 1) := by decide +kernel
theorem dX4_rankOf_71 : decode cX4_rankOf 71 = .ok (.if_icmp .ne 14, 3) := by decide +kernel
theorem dX4_rankOf_74 : decode cX4_rankOf 74 = .ok (.aload_n 0, 1) := by decide +kernel
theorem dX4_rankOf_75 : decode cX4_rankOf 75 = .ok (.iload_n 1, 1) := by decide +kernel
theorem dX4_rankOf_76 : decode cX4_rankOf 76 = .ok (.invokevirtual 75, 3) := by decide +kernel
theorem dX4_rankOf_79 : decode cX4_rankOf 79 = .ok (.invokestatic 58, 3) := by decide +kernel
theorem dX4_rankOf_82 : decode cX4_rankOf 82 = .ok (.goto 8, 3) := by decide +kernel
theorem dX4_rankOf_85 : decode cX4_rankOf 85 = .ok (.aload_n 0, 1) := by decide +kernel
theorem dX4_rankOf_86 : decode cX4_rankOf 86 = .ok (.iload_n 3, 1) := by decide +kernel
theorem dX4_rankOf_87 : decode cX4_rankOf 87 = .ok (.invokevirtual 78, 3) := by decide +kernel
theorem dX4_rankOf_90 : decode cX4_rankOf 90 = .ok (.ireturn, 1) := by decide +kernel
theorem dX4_law_0 : decode cX4_law 0 = .ok (.iload_n 1, 1) := by decide +kernel
theorem dX4_law_1 : decode cX4_law 1 = .ok (.ifCond .ne 15, 3) := by decide +kernel
theorem dX4_law_4 : decode cX4_law 4 = .ok (.iload_n 2, 1) := by decide +kernel
theorem dX4_law_5 : decode cX4_law 5 = .ok (.i2l, 1) := by decide +kernel
theorem dX4_law_6 : decode cX4_law 6 = .ok (.lconst 0, 1) := by decide +kernel
theorem dX4_law_7 : decode cX4_law 7 = .ok (.ldc2_w 81, 3) := by decide +kernel
theorem dX4_law_10 : decode cX4_law 10 = .ok (.invokestatic 45, 3) := by decide +kernel
theorem dX4_law_13 : decode cX4_law 13 = .ok (.goto 42, 3) := by decide +kernel
theorem dX4_law_16 : decode cX4_law 16 = .ok (.iload_n 1, 1) := by decide +kernel
theorem dX4_law_17 : decode cX4_law 17 = .ok (.iconst 1, 1) := by decide +kernel
theorem dX4_law_18 : decode cX4_law 18 = .ok (.if_icmp .ne 15, 3) := by decide +kernel
theorem dX4_law_21 : decode cX4_law 21 = .ok (.iload_n 2, 1) := by decide +kernel
theorem dX4_law_22 : decode cX4_law 22 = .ok (.i2l, 1) := by decide +kernel
theorem dX4_law_23 : decode cX4_law 23 = .ok (.lconst 1, 1) := by decide +kernel
theorem dX4_law_24 : decode cX4_law 24 = .ok (.ldc2_w 83, 3) := by decide +kernel
theorem dX4_law_27 : decode cX4_law 27 = .ok (.invokestatic 45, 3) := by decide +kernel
theorem dX4_law_30 : decode cX4_law 30 = .ok (.goto 25, 3) := by decide +kernel
theorem dX4_law_33 : decode cX4_law 33 = .ok (.iload_n 1, 1) := by decide +kernel
theorem dX4_law_34 : decode cX4_law 34 = .ok (.iconst 2, 1) := by decide +kernel
theorem dX4_law_35 : decode cX4_law 35 = .ok (.if_icmp .ne 19, 3) := by decide +kernel
theorem dX4_law_38 : decode cX4_law 38 = .ok (.iload_n 2, 1) := by decide +kernel
theorem dX4_law_39 : decode cX4_law 39 = .ok (.i2l, 1) := by decide +kernel
theorem dX4_law_40 : decode cX4_law 40 = .ok (.lconst 0, 1) := by decide +kernel
theorem dX4_law_41 : decode cX4_law 41 = .ok (.ldc2_w 85, 3) := by decide +kernel
theorem dX4_law_44 : decode cX4_law 44 = .ok (.invokestatic 45, 3) := by decide +kernel
theorem dX4_law_47 : decode cX4_law 47 = .ok (.ifCond .eq 7, 3) := by decide +kernel
theorem dX4_law_50 : decode cX4_law 50 = .ok (.iconst 1, 1) := by decide +kernel
theorem dX4_law_51 : decode cX4_law 51 = .ok (.goto 4, 3) := by decide +kernel
theorem dX4_law_54 : decode cX4_law 54 = .ok (.iconst 0, 1) := by decide +kernel
theorem dX4_law_55 : decode cX4_law 55 = .ok (.istore_n 3, 1) := by decide +kernel
theorem dX4_law_56 : decode cX4_law 56 = .ok (.iload_n 3, 1) := by decide +kernel
theorem dX4_law_57 : decode cX4_law 57 = .ok (.ifCond .eq 14, 3) := by decide +kernel
theorem dX4_law_60 : decode cX4_law 60 = .ok (.aload_n 0, 1) := by decide +kernel
theorem dX4_law_61 : decode cX4_law 61 = .ok (.iconst 1, 1) := by decide +kernel
theorem dX4_law_62 : decode cX4_law 62 = .ok (.iload_n 1, 1) := by decide +kernel
theorem dX4_law_63 : decode cX4_law 63 = .ok (.iadd, 1) := by decide +kernel
theorem dX4_law_64 : decode cX4_law 64 = .ok (.iload_n 2, 1) := by decide +kernel
theorem dX4_law_65 : decode cX4_law 65 = .ok (.invokevirtual 68, 3) := by decide +kernel
theorem dX4_law_68 : decode cX4_law 68 = .ok (.goto 9, 3) := by decide +kernel
theorem dX4_law_71 : decode cX4_law 71 = .ok (.aload_n 0, 1) := by decide +kernel
theorem dX4_law_72 : decode cX4_law 72 = .ok (.ldc 37, 2) := by decide +kernel
theorem dX4_law_74 : decode cX4_law 74 = .ok (.invokevirtual 39, 3) := by decide +kernel
theorem dX4_law_77 : decode cX4_law 77 = .ok (.ireturn, 1) := by decide +kernel
theorem dX4_comes_0 : decode cX4_comes 0 = .ok (.aload_n 0, 1) := by decide +kernel
theorem dX4_comes_1 : decode cX4_comes 1 = .ok (.getfield 9, 3) := by decide +kernel
theorem dX4_comes_4 : decode cX4_comes 4 = .ok (.bipush 6, 2) := by decide +kernel
theorem dX4_comes_6 : decode cX4_comes 6 = .ok (.iaload, 1) := by decide +kernel
theorem dX4_comes_7 : decode cX4_comes 7 = .ok (.istore_n 3, 1) := by decide +kernel
theorem dX4_comes_8 : decode cX4_comes 8 = .ok (.aload_n 0, 1) := by decide +kernel
theorem dX4_comes_9 : decode cX4_comes 9 = .ok (.getfield 9, 3) := by decide +kernel
theorem dX4_comes_12 : decode cX4_comes 12 = .ok (.bipush 6, 2) := by decide +kernel
theorem dX4_comes_14 : decode cX4_comes 14 = .ok (.dup2, 1) := by decide +kernel
theorem dX4_comes_15 : decode cX4_comes 15 = .ok (.iaload, 1) := by decide +kernel
theorem dX4_comes_16 : decode cX4_comes 16 = .ok (.iconst 1, 1) := by decide +kernel
theorem dX4_comes_17 : decode cX4_comes 17 = .ok (.iadd, 1) := by decide +kernel
theorem dX4_comes_18 : decode cX4_comes 18 = .ok (.iastore, 1) := by decide +kernel
theorem dX4_comes_19 : decode cX4_comes 19 = .ok (.aload_n 0, 1) := by decide +kernel
theorem dX4_comes_20 : decode cX4_comes 20 = .ok (.iload_n 3, 1) := by decide +kernel
theorem dX4_comes_21 : decode cX4_comes 21 = .ok (.iconst 0, 1) := by decide +kernel
theorem dX4_comes_22 : decode cX4_comes 22 = .ok (.iload_n 1, 1) := by decide +kernel
theorem dX4_comes_23 : decode cX4_comes 23 = .ok (.invokevirtual 87, 3) := by decide +kernel
theorem dX4_comes_26 : decode cX4_comes 26 = .ok (.aload_n 0, 1) := by decide +kernel
theorem dX4_comes_27 : decode cX4_comes 27 = .ok (.iload_n 3, 1) := by decide +kernel
theorem dX4_comes_28 : decode cX4_comes 28 = .ok (.iconst 1, 1) := by decide +kernel
theorem dX4_comes_29 : decode cX4_comes 29 = .ok (.iload_n 2, 1) := by decide +kernel
theorem dX4_comes_30 : decode cX4_comes 30 = .ok (.invokevirtual 87, 3) := by decide +kernel
theorem dX4_comes_33 : decode cX4_comes 33 = .ok (.aload_n 0, 1) := by decide +kernel
theorem dX4_comes_34 : decode cX4_comes 34 = .ok (.iload_n 3, 1) := by decide +kernel
theorem dX4_comes_35 : decode cX4_comes 35 = .ok (.iconst 2, 1) := by decide +kernel
theorem dX4_comes_36 : decode cX4_comes 36 = .ok (.bipush 30, 2) := by decide +kernel
theorem dX4_comes_38 : decode cX4_comes 38 = .ok (.invokevirtual 87, 3) := by decide +kernel
theorem dX4_comes_41 : decode cX4_comes 41 = .ok (.aload_n 0, 1) := by decide +kernel
theorem dX4_comes_42 : decode cX4_comes 42 = .ok (.iload_n 3, 1) := by decide +kernel
theorem dX4_comes_43 : decode cX4_comes 43 = .ok (.iconst 3, 1) := by decide +kernel
theorem dX4_comes_44 : decode cX4_comes 44 = .ok (.iconst 0, 1) := by decide +kernel
theorem dX4_comes_45 : decode cX4_comes 45 = .ok (.invokevirtual 87, 3) := by decide +kernel
theorem dX4_comes_48 : decode cX4_comes 48 = .ok (.aload_n 0, 1) := by decide +kernel
theorem dX4_comes_49 : decode cX4_comes 49 = .ok (.iload_n 3, 1) := by decide +kernel
theorem dX4_comes_50 : decode cX4_comes 50 = .ok (.iconst 4, 1) := by decide +kernel
theorem dX4_comes_51 : decode cX4_comes 51 = .ok (.bipush 100, 2) := by decide +kernel
theorem dX4_comes_53 : decode cX4_comes 53 = .ok (.invokevirtual 87, 3) := by decide +kernel
theorem dX4_comes_56 : decode cX4_comes 56 = .ok (.aload_n 0, 1) := by decide +kernel
theorem dX4_comes_57 : decode cX4_comes 57 = .ok (.iload_n 3, 1) := by decide +kernel
theorem dX4_comes_58 : decode cX4_comes 58 = .ok (.iconst 5, 1) := by decide +kernel
theorem dX4_comes_59 : decode cX4_comes 59 = .ok (.iconst (-1), 1) := by decide +kernel
theorem dX4_comes_60 : decode cX4_comes 60 = .ok (.invokevirtual 87, 3) := by decide +kernel
theorem dX4_comes_63 : decode cX4_comes 63 = .ok (.aload_n 0, 1) := by decide +kernel
theorem dX4_comes_64 : decode cX4_comes 64 = .ok (.iload_n 3, 1) := by decide +kernel
theorem dX4_comes_65 : decode cX4_comes 65 = .ok (.bipush 6, 2) := by decide +kernel
theorem dX4_comes_67 : decode cX4_comes 67 = .ok (.iconst 0, 1) := by decide +kernel
theorem dX4_comes_68 : decode cX4_comes 68 = .ok (.invokevirtual 87, 3) := by decide +kernel
theorem dX4_comes_71 : decode cX4_comes 71 = .ok (.iload_n 3, 1) := by decide +kernel
theorem dX4_comes_72 : decode cX4_comes 72 = .ok (.ireturn, 1) := by decide +kernel
theorem dX4_person_0 : decode cX4_person 0 = .ok (.iload_n 1, 1) := by decide +kernel
theorem dX4_person_1 : decode cX4_person 1 = .ok (.invokestatic 91, 3) := by decide +kernel
theorem dX4_person_4 : decode cX4_person 4 = .ok (.ifCond .eq 10, 3) := by decide +kernel
theorem dX4_person_7 : decode cX4_person 7 = .ok (.iload_n 2, 1) := by decide +kernel
theorem dX4_person_8 : decode cX4_person 8 = .ok (.invokestatic 61, 3) := by decide +kernel
theorem dX4_person_11 : decode cX4_person 11 = .ok (.ifCond .ne 10, 3) := by decide +kernel
theorem dX4_person_14 : decode cX4_person 14 = .ok (.aload_n 0, 1) := by decide +kernel
theorem dX4_person_15 : decode cX4_person 15 = .ok (.ldc 37, 2) := by decide +kernel
theorem dX4_person_17 : decode cX4_person 17 = .ok (.invokevirtual 39, 3) := by decide +kernel
theorem dX4_person_20 : decode cX4_person 20 = .ok (.ireturn, 1) := by decide +kernel
theorem dX4_person_21 : decode cX4_person 21 = .ok (.aload_n 0, 1) := by decide +kernel
theorem dX4_person_22 : decode cX4_person 22 = .ok (.iload_n 2, 1) := by decide +kernel
theorem dX4_person_23 : decode cX4_person 23 = .ok (.invokevirtual 94, 3) := by decide +kernel
theorem dX4_person_26 : decode cX4_person 26 = .ok (.ifCond .ne 10, 3) := by decide +kernel
theorem dX4_person_29 : decode cX4_person 29 = .ok (.aload_n 0, 1) := by decide +kernel
theorem dX4_person_30 : decode cX4_person 30 = .ok (.ldc 67, 2) := by decide +kernel
theorem dX4_person_32 : decode cX4_person 32 = .ok (.invokevirtual 39, 3) := by decide +kernel
theorem dX4_person_35 : decode cX4_person 35 = .ok (.ireturn, 1) := by decide +kernel
theorem dX4_person_36 : decode cX4_person 36 = .ok (.aload_n 0, 1) := by decide +kernel
theorem dX4_person_37 : decode cX4_person 37 = .ok (.getfield 9, 3) := by decide +kernel
theorem dX4_person_40 : decode cX4_person 40 = .ok (.bipush 6, 2) := by decide +kernel
theorem dX4_person_42 : decode cX4_person 42 = .ok (.iaload, 1) := by decide +kernel
theorem dX4_person_43 : decode cX4_person 43 = .ok (.bipush 12, 2) := by decide +kernel
theorem dX4_person_45 : decode cX4_person 45 = .ok (.if_icmp .ne 12, 3) := by decide +kernel
theorem dX4_person_48 : decode cX4_person 48 = .ok (.aload_n 0, 1) := by decide +kernel
theorem dX4_person_49 : decode cX4_person 49 = .ok (.ldc 97, 2) := by decide +kernel
theorem dX4_person_51 : decode cX4_person 51 = .ok (.invokevirtual 39, 3) := by decide +kernel
theorem dX4_person_54 : decode cX4_person 54 = .ok (.goto 9, 3) := by decide +kernel
theorem dX4_person_57 : decode cX4_person 57 = .ok (.aload_n 0, 1) := by decide +kernel
theorem dX4_person_58 : decode cX4_person 58 = .ok (.iload_n 1, 1) := by decide +kernel
theorem dX4_person_59 : decode cX4_person 59 = .ok (.iload_n 2, 1) := by decide +kernel
theorem dX4_person_60 : decode cX4_person 60 = .ok (.invokevirtual 98, 3) := by decide +kernel
theorem dX4_person_63 : decode cX4_person 63 = .ok (.ireturn, 1) := by decide +kernel
theorem dX4_of_0 : decode cX4_of 0 = .ok (.aload_n 0, 1) := by decide +kernel
theorem dX4_of_1 : decode cX4_of 1 = .ok (.iload_n 1, 1) := by decide +kernel
theorem dX4_of_2 : decode cX4_of 2 = .ok (.invokevirtual 101, 3) := by decide +kernel
theorem dX4_of_5 : decode cX4_of 5 = .ok (.ifCond .eq 24, 3) := by decide +kernel
theorem dX4_of_8 : decode cX4_of 8 = .ok (.iload_n 2, 1) := by decide +kernel
theorem dX4_of_9 : decode cX4_of 9 = .ok (.i2l, 1) := by decide +kernel
theorem dX4_of_10 : decode cX4_of 10 = .ok (.lconst 0, 1) := by decide +kernel
theorem dX4_of_11 : decode cX4_of 11 = .ok (.ldc2_w 49, 3) := by decide +kernel
theorem dX4_of_14 : decode cX4_of 14 = .ok (.invokestatic 45, 3) := by decide +kernel
theorem dX4_of_17 : decode cX4_of 17 = .ok (.ifCond .eq 12, 3) := by decide +kernel
theorem dX4_of_20 : decode cX4_of 20 = .ok (.aload_n 0, 1) := by decide +kernel
theorem dX4_of_21 : decode cX4_of 21 = .ok (.iload_n 1, 1) := by decide +kernel
theorem dX4_of_22 : decode cX4_of 22 = .ok (.iload_n 2, 1) := by decide +kernel
theorem dX4_of_23 : decode cX4_of 23 = .ok (.invokevirtual 51, 3) := by decide +kernel
theorem dX4_of_26 : decode cX4_of 26 = .ok (.goto 9, 3) := by decide +kernel
theorem dX4_of_29 : decode cX4_of 29 = .ok (.aload_n 0, 1) := by decide +kernel
theorem dX4_of_30 : decode cX4_of 30 = .ok (.ldc 37, 2) := by decide +kernel
theorem dX4_of_32 : decode cX4_of 32 = .ok (.invokevirtual 39, 3) := by decide +kernel
theorem dX4_of_35 : decode cX4_of 35 = .ok (.ireturn, 1) := by decide +kernel
theorem dX4_isPart_0 : decode cX4_isPart 0 = .ok (.iload_n 0, 1) := by decide +kernel
theorem dX4_isPart_1 : decode cX4_isPart 1 = .ok (.tableswitch 56 0 3 #[31, 56, 36, 46], 31) := by decide +kernel
theorem dX4_isPart_32 : decode cX4_isPart 32 = .ok (.iload_n 1, 1) := by decide +kernel
theorem dX4_isPart_33 : decode cX4_isPart 33 = .ok (.invokestatic 91, 3) := by decide +kernel
theorem dX4_isPart_36 : decode cX4_isPart 36 = .ok (.ireturn, 1) := by decide +kernel
theorem dX4_isPart_37 : decode cX4_isPart 37 = .ok (.iload_n 1, 1) := by decide +kernel
theorem dX4_isPart_38 : decode cX4_isPart 38 = .ok (.i2l, 1) := by decide +kernel
theorem dX4_isPart_39 : decode cX4_isPart 39 = .ok (.lconst 0, 1) := by decide +kernel
theorem dX4_isPart_40 : decode cX4_isPart 40 = .ok (.ldc2_w 104, 3) := by decide +kernel
theorem dX4_isPart_43 : decode cX4_isPart 43 = .ok (.invokestatic 45, 3) := by decide +kernel
theorem dX4_isPart_46 : decode cX4_isPart 46 = .ok (.ireturn, 1) := by decide +kernel
theorem dX4_isPart_47 : decode cX4_isPart 47 = .ok (.iload_n 1, 1) := by decide +kernel
theorem dX4_isPart_48 : decode cX4_isPart 48 = .ok (.i2l, 1) := by decide +kernel
theorem dX4_isPart_49 : decode cX4_isPart 49 = .ok (.lconst 0, 1) := by decide +kernel
theorem dX4_isPart_50 : decode cX4_isPart 50 = .ok (.ldc2_w 106, 3) := by decide +kernel
theorem dX4_isPart_53 : decode cX4_isPart 53 = .ok (.invokestatic 45, 3) := by decide +kernel
theorem dX4_isPart_56 : decode cX4_isPart 56 = .ok (.ireturn, 1) := by decide +kernel
theorem dX4_isPart_57 : decode cX4_isPart 57 = .ok (.iload_n 0, 1) := by decide +kernel
theorem dX4_isPart_58 : decode cX4_isPart 58 = .ok (.iconst 4, 1) := by decide +kernel
theorem dX4_isPart_59 : decode cX4_isPart 59 = .ok (.if_icmp .ne 19, 3) := by decide +kernel
theorem dX4_isPart_62 : decode cX4_isPart 62 = .ok (.iload_n 1, 1) := by decide +kernel
theorem dX4_isPart_63 : decode cX4_isPart 63 = .ok (.i2l, 1) := by decide +kernel
theorem dX4_isPart_64 : decode cX4_isPart 64 = .ok (.lconst 0, 1) := by decide +kernel
theorem dX4_isPart_65 : decode cX4_isPart 65 = .ok (.ldc2_w 108, 3) := by decide +kernel
theorem dX4_isPart_68 : decode cX4_isPart 68 = .ok (.invokestatic 45, 3) := by decide +kernel
theorem dX4_isPart_71 : decode cX4_isPart 71 = .ok (.ifCond .eq 7, 3) := by decide +kernel
theorem dX4_isPart_74 : decode cX4_isPart 74 = .ok (.iconst 1, 1) := by decide +kernel
theorem dX4_isPart_75 : decode cX4_isPart 75 = .ok (.goto 4, 3) := by decide +kernel
theorem dX4_isPart_78 : decode cX4_isPart 78 = .ok (.iconst 0, 1) := by decide +kernel
theorem dX4_isPart_79 : decode cX4_isPart 79 = .ok (.ireturn, 1) := by decide +kernel
theorem dX4_change_0 : decode cX4_change 0 = .ok (.aload_n 0, 1) := by decide +kernel
theorem dX4_change_1 : decode cX4_change 1 = .ok (.iload_n 1, 1) := by decide +kernel
theorem dX4_change_2 : decode cX4_change 2 = .ok (.invokevirtual 101, 3) := by decide +kernel
theorem dX4_change_5 : decode cX4_change 5 = .ok (.ifCond .eq 28, 3) := by decide +kernel
theorem dX4_change_8 : decode cX4_change 8 = .ok (.iload_n 2, 1) := by decide +kernel
theorem dX4_change_9 : decode cX4_change 9 = .ok (.iload_n 3, 1) := by decide +kernel
theorem dX4_change_10 : decode cX4_change 10 = .ok (.invokestatic 110, 3) := by decide +kernel
theorem dX4_change_13 : decode cX4_change 13 = .ok (.ifCond .eq 20, 3) := by decide +kernel
theorem dX4_change_16 : decode cX4_change 16 = .ok (.aload_n 0, 1) := by decide +kernel
theorem dX4_change_17 : decode cX4_change 17 = .ok (.bipush 15, 2) := by decide +kernel
theorem dX4_change_19 : decode cX4_change 19 = .ok (.bipush 7, 2) := by decide +kernel
theorem dX4_change_21 : decode cX4_change 21 = .ok (.iload_n 1, 1) := by decide +kernel
theorem dX4_change_22 : decode cX4_change 22 = .ok (.imul, 1) := by decide +kernel
theorem dX4_change_23 : decode cX4_change 23 = .ok (.iadd, 1) := by decide +kernel
theorem dX4_change_24 : decode cX4_change 24 = .ok (.iload_n 2, 1) := by decide +kernel
theorem dX4_change_25 : decode cX4_change 25 = .ok (.iadd, 1) := by decide +kernel
theorem dX4_change_26 : decode cX4_change 26 = .ok (.iload_n 3, 1) := by decide +kernel
theorem dX4_change_27 : decode cX4_change 27 = .ok (.invokevirtual 68, 3) := by decide +kernel
theorem dX4_change_30 : decode cX4_change 30 = .ok (.goto 9, 3) := by decide +kernel
theorem dX4_change_33 : decode cX4_change 33 = .ok (.aload_n 0, 1) := by decide +kernel
theorem dX4_change_34 : decode cX4_change 34 = .ok (.ldc 37, 2) := by decide +kernel
theorem dX4_change_36 : decode cX4_change 36 = .ok (.invokevirtual 39, 3) := by decide +kernel
theorem dX4_change_39 : decode cX4_change 39 = .ok (.ireturn, 1) := by decide +kernel
theorem dX4_mayBear_0 : decode cX4_mayBear 0 = .ok (.iload_n 2, 1) := by decide +kernel
theorem dX4_mayBear_1 : decode cX4_mayBear 1 = .ok (.iconst (-1), 1) := by decide +kernel
theorem dX4_mayBear_2 : decode cX4_mayBear 2 = .ok (.if_icmp .eq 16, 3) := by decide +kernel
theorem dX4_mayBear_5 : decode cX4_mayBear 5 = .ok (.aload_n 0, 1) := by decide +kernel
theorem dX4_mayBear_6 : decode cX4_mayBear 6 = .ok (.iload_n 2, 1) := by decide +kernel
theorem dX4_mayBear_7 : decode cX4_mayBear 7 = .ok (.invokevirtual 101, 3) := by decide +kernel
theorem dX4_mayBear_10 : decode cX4_mayBear 10 = .ok (.ifCond .eq 12, 3) := by decide +kernel
theorem dX4_mayBear_13 : decode cX4_mayBear 13 = .ok (.iload_n 2, 1) := by decide +kernel
theorem dX4_mayBear_14 : decode cX4_mayBear 14 = .ok (.iload_n 1, 1) := by decide +kernel
theorem dX4_mayBear_15 : decode cX4_mayBear 15 = .ok (.if_icmp .eq 7, 3) := by decide +kernel
theorem dX4_mayBear_18 : decode cX4_mayBear 18 = .ok (.iconst 1, 1) := by decide +kernel
theorem dX4_mayBear_19 : decode cX4_mayBear 19 = .ok (.goto 4, 3) := by decide +kernel
theorem dX4_mayBear_22 : decode cX4_mayBear 22 = .ok (.iconst 0, 1) := by decide +kernel
theorem dX4_mayBear_23 : decode cX4_mayBear 23 = .ok (.ireturn, 1) := by decide +kernel
theorem dX4_bears_0 : decode cX4_bears 0 = .ok (.aload_n 0, 1) := by decide +kernel
theorem dX4_bears_1 : decode cX4_bears 1 = .ok (.iload_n 1, 1) := by decide +kernel
theorem dX4_bears_2 : decode cX4_bears 2 = .ok (.bipush 6, 2) := by decide +kernel
theorem dX4_bears_4 : decode cX4_bears 4 = .ok (.iconst 0, 1) := by decide +kernel
theorem dX4_bears_5 : decode cX4_bears 5 = .ok (.invokevirtual 87, 3) := by decide +kernel
theorem dX4_bears_8 : decode cX4_bears 8 = .ok (.aload_n 0, 1) := by decide +kernel
theorem dX4_bears_9 : decode cX4_bears 9 = .ok (.bipush 15, 2) := by decide +kernel
theorem dX4_bears_11 : decode cX4_bears 11 = .ok (.bipush 7, 2) := by decide +kernel
theorem dX4_bears_13 : decode cX4_bears 13 = .ok (.iload_n 1, 1) := by decide +kernel
theorem dX4_bears_14 : decode cX4_bears 14 = .ok (.imul, 1) := by decide +kernel
theorem dX4_bears_15 : decode cX4_bears 15 = .ok (.iadd, 1) := by decide +kernel
theorem dX4_bears_16 : decode cX4_bears 16 = .ok (.iconst 5, 1) := by decide +kernel
theorem dX4_bears_17 : decode cX4_bears 17 = .ok (.iadd, 1) := by decide +kernel
theorem dX4_bears_18 : decode cX4_bears 18 = .ok (.iload_n 2, 1) := by decide +kernel
theorem dX4_bears_19 : decode cX4_bears 19 = .ok (.invokevirtual 68, 3) := by decide +kernel
theorem dX4_bears_22 : decode cX4_bears 22 = .ok (.ireturn, 1) := by decide +kernel
theorem dX4_grudge_0 : decode cX4_grudge 0 = .ok (.aload_n 0, 1) := by decide +kernel
theorem dX4_grudge_1 : decode cX4_grudge 1 = .ok (.iload_n 1, 1) := by decide +kernel
theorem dX4_grudge_2 : decode cX4_grudge 2 = .ok (.invokevirtual 101, 3) := by decide +kernel
theorem dX4_grudge_5 : decode cX4_grudge 5 = .ok (.ifCond .eq 21, 3) := by decide +kernel
theorem dX4_grudge_8 : decode cX4_grudge 8 = .ok (.aload_n 0, 1) := by decide +kernel
theorem dX4_grudge_9 : decode cX4_grudge 9 = .ok (.iload_n 1, 1) := by decide +kernel
theorem dX4_grudge_10 : decode cX4_grudge 10 = .ok (.iload_n 2, 1) := by decide +kernel
theorem dX4_grudge_11 : decode cX4_grudge 11 = .ok (.invokevirtual 113, 3) := by decide +kernel
theorem dX4_grudge_14 : decode cX4_grudge 14 = .ok (.ifCond .eq 12, 3) := by decide +kernel
theorem dX4_grudge_17 : decode cX4_grudge 17 = .ok (.aload_n 0, 1) := by decide +kernel
theorem dX4_grudge_18 : decode cX4_grudge 18 = .ok (.iload_n 1, 1) := by decide +kernel
theorem dX4_grudge_19 : decode cX4_grudge 19 = .ok (.iload_n 2, 1) := by decide +kernel
theorem dX4_grudge_20 : decode cX4_grudge 20 = .ok (.invokevirtual 116, 3) := by decide +kernel
theorem dX4_grudge_23 : decode cX4_grudge 23 = .ok (.goto 9, 3) := by decide +kernel
theorem dX4_grudge_26 : decode cX4_grudge 26 = .ok (.aload_n 0, 1) := by decide +kernel
theorem dX4_grudge_27 : decode cX4_grudge 27 = .ok (.ldc 37, 2) := by decide +kernel
theorem dX4_grudge_29 : decode cX4_grudge 29 = .ok (.invokevirtual 39, 3) := by decide +kernel
theorem dX4_grudge_32 : decode cX4_grudge 32 = .ok (.ireturn, 1) := by decide +kernel
theorem dX4_put_0 : decode cX4_put 0 = .ok (.aload_n 0, 1) := by decide +kernel
theorem dX4_put_1 : decode cX4_put 1 = .ok (.iload_n 1, 1) := by decide +kernel
theorem dX4_put_2 : decode cX4_put 2 = .ok (.invokevirtual 101, 3) := by decide +kernel
theorem dX4_put_5 : decode cX4_put 5 = .ok (.ifCond .eq 15, 3) := by decide +kernel
theorem dX4_put_8 : decode cX4_put 8 = .ok (.iload_n 2, 1) := by decide +kernel
theorem dX4_put_9 : decode cX4_put 9 = .ok (.iconst (-1), 1) := by decide +kernel
theorem dX4_put_10 : decode cX4_put 10 = .ok (.if_icmp .eq 17, 3) := by decide +kernel
theorem dX4_put_13 : decode cX4_put 13 = .ok (.iload_n 2, 1) := by decide +kernel
theorem dX4_put_14 : decode cX4_put 14 = .ok (.invokestatic 61, 3) := by decide +kernel
theorem dX4_put_17 : decode cX4_put 17 = .ok (.ifCond .ne 10, 3) := by decide +kernel
theorem dX4_put_20 : decode cX4_put 20 = .ok (.aload_n 0, 1) := by decide +kernel
theorem dX4_put_21 : decode cX4_put 21 = .ok (.ldc 37, 2) := by decide +kernel
theorem dX4_put_23 : decode cX4_put 23 = .ok (.invokevirtual 39, 3) := by decide +kernel
theorem dX4_put_26 : decode cX4_put 26 = .ok (.ireturn, 1) := by decide +kernel
theorem dX4_put_27 : decode cX4_put 27 = .ok (.aload_n 0, 1) := by decide +kernel
theorem dX4_put_28 : decode cX4_put 28 = .ok (.iload_n 1, 1) := by decide +kernel
theorem dX4_put_29 : decode cX4_put 29 = .ok (.invokevirtual 119, 3) := by decide +kernel
theorem dX4_put_32 : decode cX4_put 32 = .ok (.iload_n 2, 1) := by decide +kernel
theorem dX4_put_33 : decode cX4_put 33 = .ok (.iconst (-1), 1) := by decide +kernel
theorem dX4_put_34 : decode cX4_put 34 = .ok (.if_icmp .ne 7, 3) := by decide +kernel
theorem dX4_put_37 : decode cX4_put 37 = .ok (.iconst 1, 1) := by decide +kernel
theorem dX4_put_38 : decode cX4_put 38 = .ok (.goto 4, 3) := by decide +kernel
theorem dX4_put_41 : decode cX4_put 41 = .ok (.iconst 0, 1) := by decide +kernel
theorem dX4_put_42 : decode cX4_put 42 = .ok (.if_icmp .eq 16, 3) := by decide +kernel
theorem dX4_put_45 : decode cX4_put 45 = .ok (.iload_n 2, 1) := by decide +kernel
theorem dX4_put_46 : decode cX4_put 46 = .ok (.iconst (-1), 1) := by decide +kernel
theorem dX4_put_47 : decode cX4_put 47 = .ok (.if_icmp .eq 18, 3) := by decide +kernel
theorem dX4_put_50 : decode cX4_put 50 = .ok (.aload_n 0, 1) := by decide +kernel
theorem dX4_put_51 : decode cX4_put 51 = .ok (.iload_n 2, 1) := by decide +kernel
theorem dX4_put_52 : decode cX4_put 52 = .ok (.invokevirtual 94, 3) := by decide +kernel
theorem dX4_put_55 : decode cX4_put 55 = .ok (.ifCond .ne 10, 3) := by decide +kernel
theorem dX4_put_58 : decode cX4_put 58 = .ok (.aload_n 0, 1) := by decide +kernel
theorem dX4_put_59 : decode cX4_put 59 = .ok (.ldc 67, 2) := by decide +kernel
theorem dX4_put_61 : decode cX4_put 61 = .ok (.invokevirtual 39, 3) := by decide +kernel
theorem dX4_put_64 : decode cX4_put 64 = .ok (.ireturn, 1) := by decide +kernel
theorem dX4_put_65 : decode cX4_put 65 = .ok (.aload_n 0, 1) := by decide +kernel
theorem dX4_put_66 : decode cX4_put 66 = .ok (.bipush 15, 2) := by decide +kernel
theorem dX4_put_68 : decode cX4_put 68 = .ok (.bipush 7, 2) := by decide +kernel
theorem dX4_put_70 : decode cX4_put 70 = .ok (.iload_n 1, 1) := by decide +kernel
theorem dX4_put_71 : decode cX4_put 71 = .ok (.imul, 1) := by decide +kernel
theorem dX4_put_72 : decode cX4_put 72 = .ok (.iadd, 1) := by decide +kernel
theorem dX4_put_73 : decode cX4_put 73 = .ok (.iconst 1, 1) := by decide +kernel
theorem dX4_put_74 : decode cX4_put 74 = .ok (.iadd, 1) := by decide +kernel
theorem dX4_put_75 : decode cX4_put 75 = .ok (.iload_n 2, 1) := by decide +kernel
theorem dX4_put_76 : decode cX4_put 76 = .ok (.invokevirtual 68, 3) := by decide +kernel
theorem dX4_put_79 : decode cX4_put 79 = .ok (.ireturn, 1) := by decide +kernel
theorem dX4_gives_0 : decode cX4_gives 0 = .ok (.aload_n 0, 1) := by decide +kernel
theorem dX4_gives_1 : decode cX4_gives 1 = .ok (.iload_n 1, 1) := by decide +kernel
theorem dX4_gives_2 : decode cX4_gives 2 = .ok (.iconst 5, 1) := by decide +kernel
theorem dX4_gives_3 : decode cX4_gives 3 = .ok (.invokevirtual 51, 3) := by decide +kernel
theorem dX4_gives_6 : decode cX4_gives 6 = .ok (.istore_n 3, 1) := by decide +kernel
theorem dX4_gives_7 : decode cX4_gives 7 = .ok (.aload_n 0, 1) := by decide +kernel
theorem dX4_gives_8 : decode cX4_gives 8 = .ok (.iload_n 3, 1) := by decide +kernel
theorem dX4_gives_9 : decode cX4_gives 9 = .ok (.iconst 4, 1) := by decide +kernel
theorem dX4_gives_10 : decode cX4_gives 10 = .ok (.aload_n 0, 1) := by decide +kernel
theorem dX4_gives_11 : decode cX4_gives 11 = .ok (.iload_n 3, 1) := by decide +kernel
theorem dX4_gives_12 : decode cX4_gives 12 = .ok (.iconst 4, 1) := by decide +kernel
theorem dX4_gives_13 : decode cX4_gives 13 = .ok (.invokevirtual 51, 3) := by decide +kernel
theorem dX4_gives_16 : decode cX4_gives 16 = .ok (.iload_n 2, 1) := by decide +kernel
theorem dX4_gives_17 : decode cX4_gives 17 = .ok (.isub, 1) := by decide +kernel
theorem dX4_gives_18 : decode cX4_gives 18 = .ok (.invokevirtual 87, 3) := by decide +kernel
theorem dX4_gives_21 : decode cX4_gives 21 = .ok (.aload_n 0, 1) := by decide +kernel
theorem dX4_gives_22 : decode cX4_gives 22 = .ok (.iload_n 1, 1) := by decide +kernel
theorem dX4_gives_23 : decode cX4_gives 23 = .ok (.iconst 4, 1) := by decide +kernel
theorem dX4_gives_24 : decode cX4_gives 24 = .ok (.aload_n 0, 1) := by decide +kernel
theorem dX4_gives_25 : decode cX4_gives 25 = .ok (.iload_n 1, 1) := by decide +kernel
theorem dX4_gives_26 : decode cX4_gives 26 = .ok (.iconst 4, 1) := by decide +kernel
theorem dX4_gives_27 : decode cX4_gives 27 = .ok (.invokevirtual 51, 3) := by decide +kernel
theorem dX4_gives_30 : decode cX4_gives 30 = .ok (.iload_n 2, 1) := by decide +kernel
theorem dX4_gives_31 : decode cX4_gives 31 = .ok (.iadd, 1) := by decide +kernel
theorem dX4_gives_32 : decode cX4_gives 32 = .ok (.invokevirtual 87, 3) := by decide +kernel
theorem dX4_gives_35 : decode cX4_gives 35 = .ok (.aload_n 0, 1) := by decide +kernel
theorem dX4_gives_36 : decode cX4_gives 36 = .ok (.iload_n 1, 1) := by decide +kernel
theorem dX4_gives_37 : decode cX4_gives 37 = .ok (.bipush 6, 2) := by decide +kernel
theorem dX4_gives_39 : decode cX4_gives 39 = .ok (.aload_n 0, 1) := by decide +kernel
theorem dX4_gives_40 : decode cX4_gives 40 = .ok (.iload_n 1, 1) := by decide +kernel
theorem dX4_gives_41 : decode cX4_gives 41 = .ok (.bipush 6, 2) := by decide +kernel
theorem dX4_gives_43 : decode cX4_gives 43 = .ok (.invokevirtual 51, 3) := by decide +kernel
theorem dX4_gives_46 : decode cX4_gives 46 = .ok (.iload_n 2, 1) := by decide +kernel
theorem dX4_gives_47 : decode cX4_gives 47 = .ok (.iadd, 1) := by decide +kernel
theorem dX4_gives_48 : decode cX4_gives 48 = .ok (.invokevirtual 87, 3) := by decide +kernel
theorem dX4_gives_51 : decode cX4_gives 51 = .ok (.return_, 1) := by decide +kernel
theorem dX4_canGive_0 : decode cX4_canGive 0 = .ok (.aload_n 0, 1) := by decide +kernel
theorem dX4_canGive_1 : decode cX4_canGive 1 = .ok (.aload_n 0, 1) := by decide +kernel
theorem dX4_canGive_2 : decode cX4_canGive 2 = .ok (.iload_n 1, 1) := by decide +kernel
theorem dX4_canGive_3 : decode cX4_canGive 3 = .ok (.iconst 5, 1) := by decide +kernel
theorem dX4_canGive_4 : decode cX4_canGive 4 = .ok (.invokevirtual 51, 3) := by decide +kernel
theorem dX4_canGive_7 : decode cX4_canGive 7 = .ok (.iconst 4, 1) := by decide +kernel
theorem dX4_canGive_8 : decode cX4_canGive 8 = .ok (.invokevirtual 51, 3) := by decide +kernel
theorem dX4_canGive_11 : decode cX4_canGive 11 = .ok (.iload_n 2, 1) := by decide +kernel
theorem dX4_canGive_12 : decode cX4_canGive 12 = .ok (.if_icmp .lt 21, 3) := by decide +kernel
theorem dX4_canGive_15 : decode cX4_canGive 15 = .ok (.aload_n 0, 1) := by decide +kernel
theorem dX4_canGive_16 : decode cX4_canGive 16 = .ok (.iload_n 1, 1) := by decide +kernel
theorem dX4_canGive_17 : decode cX4_canGive 17 = .ok (.iconst 4, 1) := by decide +kernel
theorem dX4_canGive_18 : decode cX4_canGive 18 = .ok (.invokevirtual 51, 3) := by decide +kernel
theorem dX4_canGive_21 : decode cX4_canGive 21 = .ok (.iload_n 2, 1) := by decide +kernel
theorem dX4_canGive_22 : decode cX4_canGive 22 = .ok (.iadd, 1) := by decide +kernel
theorem dX4_canGive_23 : decode cX4_canGive 23 = .ok (.sipush 9999, 3) := by decide +kernel
theorem dX4_canGive_26 : decode cX4_canGive 26 = .ok (.if_icmp .gt 7, 3) := by decide +kernel
theorem dX4_canGive_29 : decode cX4_canGive 29 = .ok (.iconst 1, 1) := by decide +kernel
theorem dX4_canGive_30 : decode cX4_canGive 30 = .ok (.goto 4, 3) := by decide +kernel
theorem dX4_canGive_33 : decode cX4_canGive 33 = .ok (.iconst 0, 1) := by decide +kernel
theorem dX4_canGive_34 : decode cX4_canGive 34 = .ok (.ireturn, 1) := by decide +kernel
theorem dX4_gift_0 : decode cX4_gift 0 = .ok (.aload_n 0, 1) := by decide +kernel
theorem dX4_gift_1 : decode cX4_gift 1 = .ok (.iload_n 1, 1) := by decide +kernel
theorem dX4_gift_2 : decode cX4_gift 2 = .ok (.invokevirtual 101, 3) := by decide +kernel
theorem dX4_gift_5 : decode cX4_gift 5 = .ok (.ifCond .eq 15, 3) := by decide +kernel
theorem dX4_gift_8 : decode cX4_gift 8 = .ok (.iload_n 2, 1) := by decide +kernel
theorem dX4_gift_9 : decode cX4_gift 9 = .ok (.i2l, 1) := by decide +kernel
theorem dX4_gift_10 : decode cX4_gift 10 = .ok (.lconst 1, 1) := by decide +kernel
theorem dX4_gift_11 : decode cX4_gift 11 = .ok (.ldc2_w 108, 3) := by decide +kernel
theorem dX4_gift_14 : decode cX4_gift 14 = .ok (.invokestatic 45, 3) := by decide +kernel
theorem dX4_gift_17 : decode cX4_gift 17 = .ok (.ifCond .ne 10, 3) := by decide +kernel
theorem dX4_gift_20 : decode cX4_gift 20 = .ok (.aload_n 0, 1) := by decide +kernel
theorem dX4_gift_21 : decode cX4_gift 21 = .ok (.ldc 37, 2) := by decide +kernel
theorem dX4_gift_23 : decode cX4_gift 23 = .ok (.invokevirtual 39, 3) := by decide +kernel
theorem dX4_gift_26 : decode cX4_gift 26 = .ok (.ireturn, 1) := by decide +kernel
theorem dX4_gift_27 : decode cX4_gift 27 = .ok (.aload_n 0, 1) := by decide +kernel
theorem dX4_gift_28 : decode cX4_gift 28 = .ok (.iload_n 1, 1) := by decide +kernel
theorem dX4_gift_29 : decode cX4_gift 29 = .ok (.iconst 5, 1) := by decide +kernel
theorem dX4_gift_30 : decode cX4_gift 30 = .ok (.invokevirtual 51, 3) := by decide +kernel
theorem dX4_gift_33 : decode cX4_gift 33 = .ok (.ifCond .lt 12, 3) := by decide +kernel
theorem dX4_gift_36 : decode cX4_gift 36 = .ok (.aload_n 0, 1) := by decide +kernel
theorem dX4_gift_37 : decode cX4_gift 37 = .ok (.iload_n 1, 1) := by decide +kernel
theorem dX4_gift_38 : decode cX4_gift 38 = .ok (.iload_n 2, 1) := by decide +kernel
theorem dX4_gift_39 : decode cX4_gift 39 = .ok (.invokevirtual 122, 3) := by decide +kernel
theorem dX4_gift_42 : decode cX4_gift 42 = .ok (.ifCond .ne 10, 3) := by decide +kernel
theorem dX4_gift_45 : decode cX4_gift 45 = .ok (.aload_n 0, 1) := by decide +kernel
theorem dX4_gift_46 : decode cX4_gift 46 = .ok (.ldc 67, 2) := by decide +kernel
theorem dX4_gift_48 : decode cX4_gift 48 = .ok (.invokevirtual 39, 3) := by decide +kernel
theorem dX4_gift_51 : decode cX4_gift 51 = .ok (.ireturn, 1) := by decide +kernel
theorem dX4_gift_52 : decode cX4_gift 52 = .ok (.aload_n 0, 1) := by decide +kernel
theorem dX4_gift_53 : decode cX4_gift 53 = .ok (.iload_n 1, 1) := by decide +kernel
theorem dX4_gift_54 : decode cX4_gift 54 = .ok (.iload_n 2, 1) := by decide +kernel
theorem dX4_gift_55 : decode cX4_gift 55 = .ok (.invokevirtual 125, 3) := by decide +kernel
theorem dX4_gift_58 : decode cX4_gift 58 = .ok (.aload_n 0, 1) := by decide +kernel
theorem dX4_gift_59 : decode cX4_gift 59 = .ok (.iload_n 1, 1) := by decide +kernel
theorem dX4_gift_60 : decode cX4_gift 60 = .ok (.bipush 6, 2) := by decide +kernel
theorem dX4_gift_62 : decode cX4_gift 62 = .ok (.invokevirtual 51, 3) := by decide +kernel
theorem dX4_gift_65 : decode cX4_gift 65 = .ok (.ireturn, 1) := by decide +kernel
theorem dX4_exchange_0 : decode cX4_exchange 0 = .ok (.aload_n 0, 1) := by decide +kernel
theorem dX4_exchange_1 : decode cX4_exchange 1 = .ok (.iload_n 1, 1) := by decide +kernel
theorem dX4_exchange_2 : decode cX4_exchange 2 = .ok (.invokevirtual 101, 3) := by decide +kernel
theorem dX4_exchange_5 : decode cX4_exchange 5 = .ok (.ifCond .eq 16, 3) := by decide +kernel
theorem dX4_exchange_8 : decode cX4_exchange 8 = .ok (.aload_n 0, 1) := by decide +kernel
theorem dX4_exchange_9 : decode cX4_exchange 9 = .ok (.iload_n 2, 1) := by decide +kernel
theorem dX4_exchange_10 : decode cX4_exchange 10 = .ok (.invokevirtual 101, 3) := by decide +kernel
theorem dX4_exchange_13 : decode cX4_exchange 13 = .ok (.ifCond .eq 8, 3) := by decide +kernel
theorem dX4_exchange_16 : decode cX4_exchange 16 = .ok (.iload_n 1, 1) := by decide +kernel
theorem dX4_exchange_17 : decode cX4_exchange 17 = .ok (.iload_n 2, 1) := by decide +kernel
theorem dX4_exchange_18 : decode cX4_exchange 18 = .ok (.if_icmp .ne 10, 3) := by decide +kernel
theorem dX4_exchange_21 : decode cX4_exchange 21 = .ok (.aload_n 0, 1) := by decide +kernel
theorem dX4_exchange_22 : decode cX4_exchange 22 = .ok (.ldc 37, 2) := by decide +kernel
theorem dX4_exchange_24 : decode cX4_exchange 24 = .ok (.invokevirtual 39, 3) := by decide +kernel
theorem dX4_exchange_27 : decode cX4_exchange 27 = .ok (.ireturn, 1) := by decide +kernel
theorem dX4_exchange_28 : decode cX4_exchange 28 = .ok (.aload_n 0, 1) := by decide +kernel
theorem dX4_exchange_29 : decode cX4_exchange 29 = .ok (.iload_n 1, 1) := by decide +kernel
theorem dX4_exchange_30 : decode cX4_exchange 30 = .ok (.invokevirtual 119, 3) := by decide +kernel
theorem dX4_exchange_33 : decode cX4_exchange 33 = .ok (.ifCond .ne 11, 3) := by decide +kernel
theorem dX4_exchange_36 : decode cX4_exchange 36 = .ok (.aload_n 0, 1) := by decide +kernel
theorem dX4_exchange_37 : decode cX4_exchange 37 = .ok (.iload_n 2, 1) := by decide +kernel
theorem dX4_exchange_38 : decode cX4_exchange 38 = .ok (.invokevirtual 119, 3) := by decide +kernel
theorem dX4_exchange_41 : decode cX4_exchange 41 = .ok (.ifCond .eq 10, 3) := by decide +kernel
theorem dX4_exchange_44 : decode cX4_exchange 44 = .ok (.aload_n 0, 1) := by decide +kernel
theorem dX4_exchange_45 : decode cX4_exchange 45 = .ok (.ldc 67, 2) := by decide +kernel
theorem dX4_exchange_47 : decode cX4_exchange 47 = .ok (.invokevirtual 39, 3) := by decide +kernel
theorem dX4_exchange_50 : decode cX4_exchange 50 = .ok (.ireturn, 1) := by decide +kernel
theorem dX4_exchange_51 : decode cX4_exchange 51 = .ok (.aload_n 0, 1) := by decide +kernel
theorem dX4_exchange_52 : decode cX4_exchange 52 = .ok (.iload_n 2, 1) := by decide +kernel
theorem dX4_exchange_53 : decode cX4_exchange 53 = .ok (.iconst 1, 1) := by decide +kernel
theorem dX4_exchange_54 : decode cX4_exchange 54 = .ok (.aload_n 0, 1) := by decide +kernel
theorem dX4_exchange_55 : decode cX4_exchange 55 = .ok (.bipush 15, 2) := by decide +kernel
theorem dX4_exchange_57 : decode cX4_exchange 57 = .ok (.bipush 7, 2) := by decide +kernel
theorem dX4_exchange_59 : decode cX4_exchange 59 = .ok (.iload_n 1, 1) := by decide +kernel
theorem dX4_exchange_60 : decode cX4_exchange 60 = .ok (.imul, 1) := by decide +kernel
theorem dX4_exchange_61 : decode cX4_exchange 61 = .ok (.iadd, 1) := by decide +kernel
theorem dX4_exchange_62 : decode cX4_exchange 62 = .ok (.iconst 1, 1) := by decide +kernel
theorem dX4_exchange_63 : decode cX4_exchange 63 = .ok (.iadd, 1) := by decide +kernel
theorem dX4_exchange_64 : decode cX4_exchange 64 = .ok (.aload_n 0, 1) := by decide +kernel
theorem dX4_exchange_65 : decode cX4_exchange 65 = .ok (.iload_n 2, 1) := by decide +kernel
theorem dX4_exchange_66 : decode cX4_exchange 66 = .ok (.iconst 1, 1) := by decide +kernel
theorem dX4_exchange_67 : decode cX4_exchange 67 = .ok (.invokevirtual 51, 3) := by decide +kernel
theorem dX4_exchange_70 : decode cX4_exchange 70 = .ok (.invokevirtual 68, 3) := by decide +kernel
theorem dX4_exchange_73 : decode cX4_exchange 73 = .ok (.invokevirtual 87, 3) := by decide +kernel
theorem dX4_exchange_76 : decode cX4_exchange 76 = .ok (.iconst 1, 1) := by decide +kernel
theorem dX4_exchange_77 : decode cX4_exchange 77 = .ok (.ireturn, 1) := by decide +kernel
theorem dX4_greatest_0 : decode cX4_greatest 0 = .ok (.iconst (-1), 1) := by decide +kernel
theorem dX4_greatest_1 : decode cX4_greatest 1 = .ok (.istore_n 3, 1) := by decide +kernel
theorem dX4_greatest_2 : decode cX4_greatest 2 = .ok (.iconst 0, 1) := by decide +kernel
theorem dX4_greatest_3 : decode cX4_greatest 3 = .ok (.istore 4, 2) := by decide +kernel
theorem dX4_greatest_5 : decode cX4_greatest 5 = .ok (.iload 4, 2) := by decide +kernel
theorem dX4_greatest_7 : decode cX4_greatest 7 = .ok (.aload_n 0, 1) := by decide +kernel
theorem dX4_greatest_8 : decode cX4_greatest 8 = .ok (.getfield 9, 3) := by decide +kernel
theorem dX4_greatest_11 : decode cX4_greatest 11 = .ok (.bipush 6, 2) := by decide +kernel
theorem dX4_greatest_13 : decode cX4_greatest 13 = .ok (.iaload, 1) := by decide +kernel
theorem dX4_greatest_14 : decode cX4_greatest 14 = .ok (.if_icmp .ge 41, 3) := by decide +kernel
theorem dX4_greatest_17 : decode cX4_greatest 17 = .ok (.iload_n 1, 1) := by decide +kernel
theorem dX4_greatest_18 : decode cX4_greatest 18 = .ok (.iload 4, 2) := by decide +kernel
theorem dX4_greatest_20 : decode cX4_greatest 20 = .ok (.invokestatic 71, 3) := by decide +kernel
theorem dX4_greatest_23 : decode cX4_greatest 23 = .ok (.ifCond .eq 26, 3) := by decide +kernel
theorem dX4_greatest_26 : decode cX4_greatest 26 = .ok (.iload_n 3, 1) := by decide +kernel
theorem dX4_greatest_27 : decode cX4_greatest 27 = .ok (.ifCond .lt 19, 3) := by decide +kernel
theorem dX4_greatest_30 : decode cX4_greatest 30 = .ok (.aload_n 0, 1) := by decide +kernel
theorem dX4_greatest_31 : decode cX4_greatest 31 = .ok (.iload 4, 2) := by decide +kernel
theorem dX4_greatest_33 : decode cX4_greatest 33 = .ok (.iload_n 2, 1) := by decide +kernel
theorem dX4_greatest_34 : decode cX4_greatest 34 = .ok (.invokevirtual 51, 3) := by decide +kernel
theorem dX4_greatest_37 : decode cX4_greatest 37 = .ok (.aload_n 0, 1) := by decide +kernel
theorem dX4_greatest_38 : decode cX4_greatest 38 = .ok (.iload_n 3, 1) := by decide +kernel
theorem dX4_greatest_39 : decode cX4_greatest 39 = .ok (.iload_n 2, 1) := by decide +kernel
theorem dX4_greatest_40 : decode cX4_greatest 40 = .ok (.invokevirtual 51, 3) := by decide +kernel
theorem dX4_greatest_43 : decode cX4_greatest 43 = .ok (.if_icmp .le 6, 3) := by decide +kernel
theorem dX4_greatest_46 : decode cX4_greatest 46 = .ok (.iload 4, 2) := by decide +kernel
theorem dX4_greatest_48 : decode cX4_greatest 48 = .ok (.istore_n 3, 1) := by decide +kernel
theorem dX4_greatest_49 : decode cX4_greatest 49 = .ok (.iinc 4 1, 3) := by decide +kernel
theorem dX4_greatest_52 : decode cX4_greatest 52 = .ok (.goto (-47), 3) := by decide +kernel
theorem dX4_greatest_55 : decode cX4_greatest 55 = .ok (.iload_n 3, 1) := by decide +kernel
theorem dX4_greatest_56 : decode cX4_greatest 56 = .ok (.ireturn, 1) := by decide +kernel
theorem dX4_wantsIt_0 : decode cX4_wantsIt 0 = .ok (.aload_n 0, 1) := by decide +kernel
theorem dX4_wantsIt_1 : decode cX4_wantsIt 1 = .ok (.iload_n 1, 1) := by decide +kernel
theorem dX4_wantsIt_2 : decode cX4_wantsIt 2 = .ok (.iconst 5, 1) := by decide +kernel
theorem dX4_wantsIt_3 : decode cX4_wantsIt 3 = .ok (.invokevirtual 51, 3) := by decide +kernel
theorem dX4_wantsIt_6 : decode cX4_wantsIt 6 = .ok (.iload_n 2, 1) := by decide +kernel
theorem dX4_wantsIt_7 : decode cX4_wantsIt 7 = .ok (.if_icmp .ne 7, 3) := by decide +kernel
theorem dX4_wantsIt_10 : decode cX4_wantsIt 10 = .ok (.iconst 1, 1) := by decide +kernel
theorem dX4_wantsIt_11 : decode cX4_wantsIt 11 = .ok (.goto 4, 3) := by decide +kernel
theorem dX4_wantsIt_14 : decode cX4_wantsIt 14 = .ok (.iconst 0, 1) := by decide +kernel
theorem dX4_wantsIt_15 : decode cX4_wantsIt 15 = .ok (.istore_n 3, 1) := by decide +kernel
theorem dX4_wantsIt_16 : decode cX4_wantsIt 16 = .ok (.iload_n 3, 1) := by decide +kernel
theorem dX4_wantsIt_17 : decode cX4_wantsIt 17 = .ok (.ifCond .eq 23, 3) := by decide +kernel
theorem dX4_wantsIt_20 : decode cX4_wantsIt 20 = .ok (.aload_n 0, 1) := by decide +kernel
theorem dX4_wantsIt_21 : decode cX4_wantsIt 21 = .ok (.iload_n 1, 1) := by decide +kernel
theorem dX4_wantsIt_22 : decode cX4_wantsIt 22 = .ok (.bipush 6, 2) := by decide +kernel
theorem dX4_wantsIt_24 : decode cX4_wantsIt 24 = .ok (.invokevirtual 51, 3) := by decide +kernel
theorem dX4_wantsIt_27 : decode cX4_wantsIt 27 = .ok (.aload_n 0, 1) := by decide +kernel
theorem dX4_wantsIt_28 : decode cX4_wantsIt 28 = .ok (.getfield 9, 3) := by decide +kernel
theorem dX4_wantsIt_31 : decode cX4_wantsIt 31 = .ok (.iconst 3, 1) := by decide +kernel
theorem dX4_wantsIt_32 : decode cX4_wantsIt 32 = .ok (.iaload, 1) := by decide +kernel
theorem dX4_wantsIt_33 : decode cX4_wantsIt 33 = .ok (.if_icmp .ge 7, 3) := by decide +kernel
theorem dX4_wantsIt_36 : decode cX4_wantsIt 36 = .ok (.iconst 1, 1) := by decide +kernel
theorem dX4_wantsIt_37 : decode cX4_wantsIt 37 = .ok (.goto 4, 3) := by decide +kernel
theorem dX4_wantsIt_40 : decode cX4_wantsIt 40 = .ok (.iconst 0, 1) := by decide +kernel
theorem dX4_wantsIt_41 : decode cX4_wantsIt 41 = .ok (.istore 4, 2) := by decide +kernel
theorem dX4_wantsIt_43 : decode cX4_wantsIt 43 = .ok (.aload_n 0, 1) := by decide +kernel
theorem dX4_wantsIt_44 : decode cX4_wantsIt 44 = .ok (.iload_n 1, 1) := by decide +kernel
theorem dX4_wantsIt_45 : decode cX4_wantsIt 45 = .ok (.iconst 0, 1) := by decide +kernel
theorem dX4_wantsIt_46 : decode cX4_wantsIt 46 = .ok (.invokevirtual 51, 3) := by decide +kernel
theorem dX4_wantsIt_49 : decode cX4_wantsIt 49 = .ok (.tableswitch 165 0 5 #[39, 165, 41, 44, 82, 107], 39) := by decide +kernel
theorem dX4_wantsIt_88 : decode cX4_wantsIt 88 = .ok (.iload_n 3, 1) := by decide +kernel
theorem dX4_wantsIt_89 : decode cX4_wantsIt 89 = .ok (.ireturn, 1) := by decide +kernel
theorem dX4_wantsIt_90 : decode cX4_wantsIt 90 = .ok (.iload 4, 2) := by decide +kernel
theorem dX4_wantsIt_92 : decode cX4_wantsIt 92 = .ok (.ireturn, 1) := by decide +kernel
theorem dX4_wantsIt_93 : decode cX4_wantsIt 93 = .ok (.iload 4, 2) := by decide +kernel
theorem dX4_wantsIt_95 : decode cX4_wantsIt 95 = .ok (.ifCond .ne 30, 3) := by decide +kernel
theorem dX4_wantsIt_98 : decode cX4_wantsIt 98 = .ok (.aload_n 0, 1) := by decide +kernel
theorem dX4_wantsIt_99 : decode cX4_wantsIt 99 = .ok (.iload_n 2, 1) := by decide +kernel
theorem dX4_wantsIt_100 : decode cX4_wantsIt 100 = .ok (.invokevirtual 119, 3) := by decide +kernel
theorem dX4_wantsIt_103 : decode cX4_wantsIt 103 = .ok (.ifCond .ne 26, 3) := by decide +kernel
theorem dX4_wantsIt_106 : decode cX4_wantsIt 106 = .ok (.aload_n 0, 1) := by decide +kernel
theorem dX4_wantsIt_107 : decode cX4_wantsIt 107 = .ok (.aload_n 0, 1) := by decide +kernel
theorem dX4_wantsIt_108 : decode cX4_wantsIt 108 = .ok (.aload_n 0, 1) := by decide +kernel
theorem dX4_wantsIt_109 : decode cX4_wantsIt 109 = .ok (.iload_n 2, 1) := by decide +kernel
theorem dX4_wantsIt_110 : decode cX4_wantsIt 110 = .ok (.iconst 1, 1) := by decide +kernel
theorem dX4_wantsIt_111 : decode cX4_wantsIt 111 = .ok (.invokevirtual 51, 3) := by decide +kernel
theorem dX4_wantsIt_114 : decode cX4_wantsIt 114 = .ok (.invokevirtual 55, 3) := by decide +kernel
theorem dX4_wantsIt_117 : decode cX4_wantsIt 117 = .ok (.iconst 4, 1) := by decide +kernel
theorem dX4_wantsIt_118 : decode cX4_wantsIt 118 = .ok (.invokevirtual 129, 3) := by decide +kernel
theorem dX4_wantsIt_121 : decode cX4_wantsIt 121 = .ok (.iload_n 2, 1) := by decide +kernel
theorem dX4_wantsIt_122 : decode cX4_wantsIt 122 = .ok (.if_icmp .ne 7, 3) := by decide +kernel
theorem dX4_wantsIt_125 : decode cX4_wantsIt 125 = .ok (.iconst 1, 1) := by decide +kernel
theorem dX4_wantsIt_126 : decode cX4_wantsIt 126 = .ok (.goto 4, 3) := by decide +kernel
theorem dX4_wantsIt_129 : decode cX4_wantsIt 129 = .ok (.iconst 0, 1) := by decide +kernel
theorem dX4_wantsIt_130 : decode cX4_wantsIt 130 = .ok (.ireturn, 1) := by decide +kernel
theorem dX4_wantsIt_131 : decode cX4_wantsIt 131 = .ok (.iload_n 3, 1) := by decide +kernel
theorem dX4_wantsIt_132 : decode cX4_wantsIt 132 = .ok (.ifCond .eq 22, 3) := by decide +kernel
theorem dX4_wantsIt_135 : decode cX4_wantsIt 135 = .ok (.aload_n 0, 1) := by decide +kernel
theorem dX4_wantsIt_136 : decode cX4_wantsIt 136 = .ok (.iload_n 2, 1) := by decide +kernel
theorem dX4_wantsIt_137 : decode cX4_wantsIt 137 = .ok (.iconst 3, 1) := by decide +kernel
theorem dX4_wantsIt_138 : decode cX4_wantsIt 138 = .ok (.invokevirtual 51, 3) := by decide +kernel
theorem dX4_wantsIt_141 : decode cX4_wantsIt 141 = .ok (.aload_n 0, 1) := by decide +kernel
theorem dX4_wantsIt_142 : decode cX4_wantsIt 142 = .ok (.iload_n 1, 1) := by decide +kernel
theorem dX4_wantsIt_143 : decode cX4_wantsIt 143 = .ok (.iconst 3, 1) := by decide +kernel
theorem dX4_wantsIt_144 : decode cX4_wantsIt 144 = .ok (.invokevirtual 51, 3) := by decide +kernel
theorem dX4_wantsIt_147 : decode cX4_wantsIt 147 = .ok (.if_icmp .eq 7, 3) := by decide +kernel
theorem dX4_wantsIt_150 : decode cX4_wantsIt 150 = .ok (.iconst 1, 1) := by decide +kernel
theorem dX4_wantsIt_151 : decode cX4_wantsIt 151 = .ok (.goto 4, 3) := by decide +kernel
theorem dX4_wantsIt_154 : decode cX4_wantsIt 154 = .ok (.iconst 0, 1) := by decide +kernel
theorem dX4_wantsIt_155 : decode cX4_wantsIt 155 = .ok (.ireturn, 1) := by decide +kernel
theorem dX4_wantsIt_156 : decode cX4_wantsIt 156 = .ok (.iload_n 3, 1) := by decide +kernel
theorem dX4_wantsIt_157 : decode cX4_wantsIt 157 = .ok (.ifCond .ne 51, 3) := by decide +kernel
theorem dX4_wantsIt_160 : decode cX4_wantsIt 160 = .ok (.aload_n 0, 1) := by decide +kernel
theorem dX4_wantsIt_161 : decode cX4_wantsIt 161 = .ok (.iload_n 2, 1) := by decide +kernel
theorem dX4_wantsIt_162 : decode cX4_wantsIt 162 = .ok (.invokevirtual 119, 3) := by decide +kernel
theorem dX4_wantsIt_165 : decode cX4_wantsIt 165 = .ok (.ifCond .ne 47, 3) := by decide +kernel
theorem dX4_wantsIt_168 : decode cX4_wantsIt 168 = .ok (.aload_n 0, 1) := by decide +kernel
theorem dX4_wantsIt_169 : decode cX4_wantsIt 169 = .ok (.iload_n 1, 1) := by decide +kernel
theorem dX4_wantsIt_170 : decode cX4_wantsIt 170 = .ok (.invokevirtual 119, 3) := by decide +kernel
theorem dX4_wantsIt_173 : decode cX4_wantsIt 173 = .ok (.ifCond .ne 39, 3) := by decide +kernel
theorem dX4_wantsIt_176 : decode cX4_wantsIt 176 = .ok (.aload_n 0, 1) := by decide +kernel
theorem dX4_wantsIt_177 : decode cX4_wantsIt 177 = .ok (.iload_n 2, 1) := by decide +kernel
theorem dX4_wantsIt_178 : decode cX4_wantsIt 178 = .ok (.iconst 1, 1) := by decide +kernel
theorem dX4_wantsIt_179 : decode cX4_wantsIt 179 = .ok (.invokevirtual 51, 3) := by decide +kernel
theorem dX4_wantsIt_182 : decode cX4_wantsIt 182 = .ok (.aload_n 0, 1) := by decide +kernel
theorem dX4_wantsIt_183 : decode cX4_wantsIt 183 = .ok (.iload_n 1, 1) := by decide +kernel
theorem dX4_wantsIt_184 : decode cX4_wantsIt 184 = .ok (.iconst 1, 1) := by decide +kernel
theorem dX4_wantsIt_185 : decode cX4_wantsIt 185 = .ok (.invokevirtual 51, 3) := by decide +kernel
theorem dX4_wantsIt_188 : decode cX4_wantsIt 188 = .ok (.iconst 2, 1) := by decide +kernel
theorem dX4_wantsIt_189 : decode cX4_wantsIt 189 = .ok (.isub, 1) := by decide +kernel
theorem dX4_wantsIt_190 : decode cX4_wantsIt 190 = .ok (.if_icmp .ne 22, 3) := by decide +kernel
theorem dX4_wantsIt_193 : decode cX4_wantsIt 193 = .ok (.aload_n 0, 1) := by decide +kernel
theorem dX4_wantsIt_194 : decode cX4_wantsIt 194 = .ok (.iload_n 2, 1) := by decide +kernel
theorem dX4_wantsIt_195 : decode cX4_wantsIt 195 = .ok (.iconst 2, 1) := by decide +kernel
theorem dX4_wantsIt_196 : decode cX4_wantsIt 196 = .ok (.invokevirtual 51, 3) := by decide +kernel
theorem dX4_wantsIt_199 : decode cX4_wantsIt 199 = .ok (.aload_n 0, 1) := by decide +kernel
theorem dX4_wantsIt_200 : decode cX4_wantsIt 200 = .ok (.iload_n 1, 1) := by decide +kernel
theorem dX4_wantsIt_201 : decode cX4_wantsIt 201 = .ok (.iconst 2, 1) := by decide +kernel
theorem dX4_wantsIt_202 : decode cX4_wantsIt 202 = .ok (.invokevirtual 51, 3) := by decide +kernel
theorem dX4_wantsIt_205 : decode cX4_wantsIt 205 = .ok (.if_icmp .le 7, 3) := by decide +kernel
theorem dX4_wantsIt_208 : decode cX4_wantsIt 208 = .ok (.iconst 1, 1) := by decide +kernel
theorem dX4_wantsIt_209 : decode cX4_wantsIt 209 = .ok (.goto 4, 3) := by decide +kernel
theorem dX4_wantsIt_212 : decode cX4_wantsIt 212 = .ok (.iconst 0, 1) := by decide +kernel
theorem dX4_wantsIt_213 : decode cX4_wantsIt 213 = .ok (.ireturn, 1) := by decide +kernel
theorem dX4_wantsIt_214 : decode cX4_wantsIt 214 = .ok (.iconst 0, 1) := by decide +kernel
theorem dX4_wantsIt_215 : decode cX4_wantsIt 215 = .ok (.ireturn, 1) := by decide +kernel
theorem dX4_wants_0 : decode cX4_wants 0 = .ok (.aload_n 0, 1) := by decide +kernel
theorem dX4_wants_1 : decode cX4_wants 1 = .ok (.iload_n 1, 1) := by decide +kernel
theorem dX4_wants_2 : decode cX4_wants 2 = .ok (.invokevirtual 101, 3) := by decide +kernel
theorem dX4_wants_5 : decode cX4_wants 5 = .ok (.ifCond .eq 16, 3) := by decide +kernel
theorem dX4_wants_8 : decode cX4_wants 8 = .ok (.aload_n 0, 1) := by decide +kernel
theorem dX4_wants_9 : decode cX4_wants 9 = .ok (.iload_n 2, 1) := by decide +kernel
theorem dX4_wants_10 : decode cX4_wants 10 = .ok (.invokevirtual 101, 3) := by decide +kernel
theorem dX4_wants_13 : decode cX4_wants 13 = .ok (.ifCond .eq 8, 3) := by decide +kernel
theorem dX4_wants_16 : decode cX4_wants 16 = .ok (.iload_n 1, 1) := by decide +kernel
theorem dX4_wants_17 : decode cX4_wants 17 = .ok (.iload_n 2, 1) := by decide +kernel
theorem dX4_wants_18 : decode cX4_wants 18 = .ok (.if_icmp .ne 10, 3) := by decide +kernel
theorem dX4_wants_21 : decode cX4_wants 21 = .ok (.aload_n 0, 1) := by decide +kernel
theorem dX4_wants_22 : decode cX4_wants 22 = .ok (.ldc 37, 2) := by decide +kernel
theorem dX4_wants_24 : decode cX4_wants 24 = .ok (.invokevirtual 39, 3) := by decide +kernel
theorem dX4_wants_27 : decode cX4_wants 27 = .ok (.ireturn, 1) := by decide +kernel
theorem dX4_wants_28 : decode cX4_wants 28 = .ok (.aload_n 0, 1) := by decide +kernel
theorem dX4_wants_29 : decode cX4_wants 29 = .ok (.iload_n 1, 1) := by decide +kernel
theorem dX4_wants_30 : decode cX4_wants 30 = .ok (.iload_n 2, 1) := by decide +kernel
theorem dX4_wants_31 : decode cX4_wants 31 = .ok (.invokevirtual 132, 3) := by decide +kernel
theorem dX4_wants_34 : decode cX4_wants 34 = .ok (.ifCond .eq 7, 3) := by decide +kernel
theorem dX4_wants_37 : decode cX4_wants 37 = .ok (.iconst 1, 1) := by decide +kernel
theorem dX4_wants_38 : decode cX4_wants 38 = .ok (.goto 4, 3) := by decide +kernel
theorem dX4_wants_41 : decode cX4_wants 41 = .ok (.iconst 0, 1) := by decide +kernel
theorem dX4_wants_42 : decode cX4_wants 42 = .ok (.ireturn, 1) := by decide +kernel
theorem dX4_below_0 : decode cX4_below 0 = .ok (.aload_n 0, 1) := by decide +kernel
theorem dX4_below_1 : decode cX4_below 1 = .ok (.iload_n 1, 1) := by decide +kernel
theorem dX4_below_2 : decode cX4_below 2 = .ok (.iconst 1, 1) := by decide +kernel
theorem dX4_below_3 : decode cX4_below 3 = .ok (.invokevirtual 51, 3) := by decide +kernel
theorem dX4_below_6 : decode cX4_below 6 = .ok (.bipush 6, 2) := by decide +kernel
theorem dX4_below_8 : decode cX4_below 8 = .ok (.if_icmp .ge 18, 3) := by decide +kernel
theorem dX4_below_11 : decode cX4_below 11 = .ok (.aload_n 0, 1) := by decide +kernel
theorem dX4_below_12 : decode cX4_below 12 = .ok (.aload_n 0, 1) := by decide +kernel
theorem dX4_below_13 : decode cX4_below 13 = .ok (.iload_n 1, 1) := by decide +kernel
theorem dX4_below_14 : decode cX4_below 14 = .ok (.iconst 1, 1) := by decide +kernel
theorem dX4_below_15 : decode cX4_below 15 = .ok (.invokevirtual 51, 3) := by decide +kernel
theorem dX4_below_18 : decode cX4_below 18 = .ok (.iconst 2, 1) := by decide +kernel
theorem dX4_below_19 : decode cX4_below 19 = .ok (.iadd, 1) := by decide +kernel
theorem dX4_below_20 : decode cX4_below 20 = .ok (.invokevirtual 75, 3) := by decide +kernel
theorem dX4_below_23 : decode cX4_below 23 = .ok (.goto 4, 3) := by decide +kernel
theorem dX4_below_26 : decode cX4_below 26 = .ok (.iconst 0, 1) := by decide +kernel
theorem dX4_below_27 : decode cX4_below 27 = .ok (.ireturn, 1) := by decide +kernel
theorem dX4_againstIt_0 : decode cX4_againstIt 0 = .ok (.iconst 0, 1) := by decide +kernel
theorem dX4_againstIt_1 : decode cX4_againstIt 1 = .ok (.istore_n 2, 1) := by decide +kernel
theorem dX4_againstIt_2 : decode cX4_againstIt 2 = .ok (.aload_n 0, 1) := by decide +kernel
theorem dX4_againstIt_3 : decode cX4_againstIt 3 = .ok (.iload_n 1, 1) := by decide +kernel
theorem dX4_againstIt_4 : decode cX4_againstIt 4 = .ok (.invokevirtual 135, 3) := by decide +kernel
theorem dX4_againstIt_7 : decode cX4_againstIt 7 = .ok (.istore_n 3, 1) := by decide +kernel
theorem dX4_againstIt_8 : decode cX4_againstIt 8 = .ok (.iconst 0, 1) := by decide +kernel
theorem dX4_againstIt_9 : decode cX4_againstIt 9 = .ok (.istore 4, 2) := by decide +kernel
theorem dX4_againstIt_11 : decode cX4_againstIt 11 = .ok (.iload 4, 2) := by decide +kernel
theorem dX4_againstIt_13 : decode cX4_againstIt 13 = .ok (.aload_n 0, 1) := by decide +kernel
theorem dX4_againstIt_14 : decode cX4_againstIt 14 = .ok (.getfield 9, 3) := by decide +kernel
theorem dX4_againstIt_17 : decode cX4_againstIt 17 = .ok (.bipush 6, 2) := by decide +kernel
theorem dX4_againstIt_19 : decode cX4_againstIt 19 = .ok (.iaload, 1) := by decide +kernel
theorem dX4_againstIt_20 : decode cX4_againstIt 20 = .ok (.if_icmp .ge 39, 3) := by decide +kernel
theorem dX4_againstIt_23 : decode cX4_againstIt 23 = .ok (.iload_n 2, 1) := by decide +kernel
theorem dX4_againstIt_24 : decode cX4_againstIt 24 = .ok (.iload_n 3, 1) := by decide +kernel
theorem dX4_againstIt_25 : decode cX4_againstIt 25 = .ok (.iload 4, 2) := by decide +kernel
theorem dX4_againstIt_27 : decode cX4_againstIt 27 = .ok (.invokestatic 71, 3) := by decide +kernel
theorem dX4_againstIt_30 : decode cX4_againstIt 30 = .ok (.ifCond .eq 20, 3) := by decide +kernel
theorem dX4_againstIt_33 : decode cX4_againstIt 33 = .ok (.aload_n 0, 1) := by decide +kernel
theorem dX4_againstIt_34 : decode cX4_againstIt 34 = .ok (.iload 4, 2) := by decide +kernel
theorem dX4_againstIt_36 : decode cX4_againstIt 36 = .ok (.iload_n 1, 1) := by decide +kernel
theorem dX4_againstIt_37 : decode cX4_againstIt 37 = .ok (.invokevirtual 132, 3) := by decide +kernel
theorem dX4_againstIt_40 : decode cX4_againstIt 40 = .ok (.ifCond .eq 10, 3) := by decide +kernel
theorem dX4_againstIt_43 : decode cX4_againstIt 43 = .ok (.iconst 1, 1) := by decide +kernel
theorem dX4_againstIt_44 : decode cX4_againstIt 44 = .ok (.iload 4, 2) := by decide +kernel
theorem dX4_againstIt_46 : decode cX4_againstIt 46 = .ok (.ishl, 1) := by decide +kernel
theorem dX4_againstIt_47 : decode cX4_againstIt 47 = .ok (.goto 4, 3) := by decide +kernel
theorem dX4_againstIt_50 : decode cX4_againstIt 50 = .ok (.iconst 0, 1) := by decide +kernel
theorem dX4_againstIt_51 : decode cX4_againstIt 51 = .ok (.ior, 1) := by decide +kernel
theorem dX4_againstIt_52 : decode cX4_againstIt 52 = .ok (.istore_n 2, 1) := by decide +kernel
theorem dX4_againstIt_53 : decode cX4_againstIt 53 = .ok (.iinc 4 1, 3) := by decide +kernel
theorem dX4_againstIt_56 : decode cX4_againstIt 56 = .ok (.goto (-45), 3) := by decide +kernel
theorem dX4_againstIt_59 : decode cX4_againstIt 59 = .ok (.iload_n 2, 1) := by decide +kernel
theorem dX4_againstIt_60 : decode cX4_againstIt 60 = .ok (.ireturn, 1) := by decide +kernel
theorem dX4_against_0 : decode cX4_against 0 = .ok (.aload_n 0, 1) := by decide +kernel
theorem dX4_against_1 : decode cX4_against 1 = .ok (.iload_n 1, 1) := by decide +kernel
theorem dX4_against_2 : decode cX4_against 2 = .ok (.invokevirtual 101, 3) := by decide +kernel
theorem dX4_against_5 : decode cX4_against 5 = .ok (.ifCond .ne 10, 3) := by decide +kernel
theorem dX4_against_8 : decode cX4_against 8 = .ok (.aload_n 0, 1) := by decide +kernel
theorem dX4_against_9 : decode cX4_against 9 = .ok (.ldc 37, 2) := by decide +kernel
theorem dX4_against_11 : decode cX4_against 11 = .ok (.invokevirtual 39, 3) := by decide +kernel
theorem dX4_against_14 : decode cX4_against 14 = .ok (.ireturn, 1) := by decide +kernel
theorem dX4_against_15 : decode cX4_against 15 = .ok (.aload_n 0, 1) := by decide +kernel
theorem dX4_against_16 : decode cX4_against 16 = .ok (.iload_n 1, 1) := by decide +kernel
theorem dX4_against_17 : decode cX4_against 17 = .ok (.invokevirtual 119, 3) := by decide +kernel
theorem dX4_against_20 : decode cX4_against 20 = .ok (.ifCond .eq 12, 3) := by decide +kernel
theorem dX4_against_23 : decode cX4_against 23 = .ok (.aload_n 0, 1) := by decide +kernel
theorem dX4_against_24 : decode cX4_against 24 = .ok (.ldc 67, 2) := by decide +kernel
theorem dX4_against_26 : decode cX4_against 26 = .ok (.invokevirtual 39, 3) := by decide +kernel
theorem dX4_against_29 : decode cX4_against 29 = .ok (.goto 8, 3) := by decide +kernel
theorem dX4_against_32 : decode cX4_against 32 = .ok (.aload_n 0, 1) := by decide +kernel
theorem dX4_against_33 : decode cX4_against 33 = .ok (.iload_n 1, 1) := by decide +kernel
theorem dX4_against_34 : decode cX4_against 34 = .ok (.invokevirtual 138, 3) := by decide +kernel
theorem dX4_against_37 : decode cX4_against 37 = .ok (.ireturn, 1) := by decide +kernel
theorem dX4_isEnough_0 : decode cX4_isEnough 0 = .ok (.iload_n 1, 1) := by decide +kernel
theorem dX4_isEnough_1 : decode cX4_isEnough 1 = .ok (.ifCond .le 19, 3) := by decide +kernel
theorem dX4_isEnough_4 : decode cX4_isEnough 4 = .ok (.iload_n 1, 1) := by decide +kernel
theorem dX4_isEnough_5 : decode cX4_isEnough 5 = .ok (.aload_n 0, 1) := by decide +kernel
theorem dX4_isEnough_6 : decode cX4_isEnough 6 = .ok (.getfield 9, 3) := by decide +kernel
theorem dX4_isEnough_9 : decode cX4_isEnough 9 = .ok (.iconst 2, 1) := by decide +kernel
theorem dX4_isEnough_10 : decode cX4_isEnough 10 = .ok (.iaload, 1) := by decide +kernel
theorem dX4_isEnough_11 : decode cX4_isEnough 11 = .ok (.imul, 1) := by decide +kernel
theorem dX4_isEnough_12 : decode cX4_isEnough 12 = .ok (.iload_n 2, 1) := by decide +kernel
theorem dX4_isEnough_13 : decode cX4_isEnough 13 = .ok (.if_icmp .lt 7, 3) := by decide +kernel
theorem dX4_isEnough_16 : decode cX4_isEnough 16 = .ok (.iconst 1, 1) := by decide +kernel
theorem dX4_isEnough_17 : decode cX4_isEnough 17 = .ok (.goto 4, 3) := by decide +kernel
theorem dX4_isEnough_20 : decode cX4_isEnough 20 = .ok (.iconst 0, 1) := by decide +kernel
theorem dX4_isEnough_21 : decode cX4_isEnough 21 = .ok (.ireturn, 1) := by decide +kernel
theorem dX4_lacks_0 : decode cX4_lacks 0 = .ok (.aload_n 0, 1) := by decide +kernel
theorem dX4_lacks_1 : decode cX4_lacks 1 = .ok (.iload_n 1, 1) := by decide +kernel
theorem dX4_lacks_2 : decode cX4_lacks 2 = .ok (.invokevirtual 101, 3) := by decide +kernel
theorem dX4_lacks_5 : decode cX4_lacks 5 = .ok (.ifCond .ne 10, 3) := by decide +kernel
theorem dX4_lacks_8 : decode cX4_lacks 8 = .ok (.aload_n 0, 1) := by decide +kernel
theorem dX4_lacks_9 : decode cX4_lacks 9 = .ok (.ldc 37, 2) := by decide +kernel
theorem dX4_lacks_11 : decode cX4_lacks 11 = .ok (.invokevirtual 39, 3) := by decide +kernel
theorem dX4_lacks_14 : decode cX4_lacks 14 = .ok (.ireturn, 1) := by decide +kernel
theorem dX4_lacks_15 : decode cX4_lacks 15 = .ok (.aload_n 0, 1) := by decide +kernel
theorem dX4_lacks_16 : decode cX4_lacks 16 = .ok (.iload_n 1, 1) := by decide +kernel
theorem dX4_lacks_17 : decode cX4_lacks 17 = .ok (.invokevirtual 119, 3) := by decide +kernel
theorem dX4_lacks_20 : decode cX4_lacks 20 = .ok (.ifCond .eq 10, 3) := by decide +kernel
theorem dX4_lacks_23 : decode cX4_lacks 23 = .ok (.aload_n 0, 1) := by decide +kernel
theorem dX4_lacks_24 : decode cX4_lacks 24 = .ok (.ldc 67, 2) := by decide +kernel
theorem dX4_lacks_26 : decode cX4_lacks 26 = .ok (.invokevirtual 39, 3) := by decide +kernel
theorem dX4_lacks_29 : decode cX4_lacks 29 = .ok (.ireturn, 1) := by decide +kernel
theorem dX4_lacks_30 : decode cX4_lacks 30 = .ok (.aload_n 0, 1) := by decide +kernel
theorem dX4_lacks_31 : decode cX4_lacks 31 = .ok (.iload_n 1, 1) := by decide +kernel
theorem dX4_lacks_32 : decode cX4_lacks 32 = .ok (.invokevirtual 135, 3) := by decide +kernel
theorem dX4_lacks_35 : decode cX4_lacks 35 = .ok (.invokestatic 58, 3) := by decide +kernel
theorem dX4_lacks_38 : decode cX4_lacks 38 = .ok (.istore_n 2, 1) := by decide +kernel
theorem dX4_lacks_39 : decode cX4_lacks 39 = .ok (.aload_n 0, 1) := by decide +kernel
theorem dX4_lacks_40 : decode cX4_lacks 40 = .ok (.iload_n 1, 1) := by decide +kernel
theorem dX4_lacks_41 : decode cX4_lacks 41 = .ok (.invokevirtual 138, 3) := by decide +kernel
theorem dX4_lacks_44 : decode cX4_lacks 44 = .ok (.invokestatic 58, 3) := by decide +kernel
theorem dX4_lacks_47 : decode cX4_lacks 47 = .ok (.istore_n 3, 1) := by decide +kernel
theorem dX4_lacks_48 : decode cX4_lacks 48 = .ok (.iconst 0, 1) := by decide +kernel
theorem dX4_lacks_49 : decode cX4_lacks 49 = .ok (.istore 4, 2) := by decide +kernel
theorem dX4_lacks_51 : decode cX4_lacks 51 = .ok (.iload_n 3, 1) := by decide +kernel
theorem dX4_lacks_52 : decode cX4_lacks 52 = .ok (.iload 4, 2) := by decide +kernel
theorem dX4_lacks_54 : decode cX4_lacks 54 = .ok (.iadd, 1) := by decide +kernel
theorem dX4_lacks_55 : decode cX4_lacks 55 = .ok (.iload_n 2, 1) := by decide +kernel
theorem dX4_lacks_56 : decode cX4_lacks 56 = .ok (.if_icmp .gt 24, 3) := by decide +kernel
theorem dX4_lacks_59 : decode cX4_lacks 59 = .ok (.aload_n 0, 1) := by decide +kernel
theorem dX4_lacks_60 : decode cX4_lacks 60 = .ok (.iload_n 3, 1) := by decide +kernel
theorem dX4_lacks_61 : decode cX4_lacks 61 = .ok (.iload 4, 2) := by decide +kernel
theorem dX4_lacks_63 : decode cX4_lacks 63 = .ok (.iadd, 1) := by decide +kernel
theorem dX4_lacks_64 : decode cX4_lacks 64 = .ok (.iload_n 2, 1) := by decide +kernel
theorem dX4_lacks_65 : decode cX4_lacks 65 = .ok (.invokevirtual 141, 3) := by decide +kernel
theorem dX4_lacks_68 : decode cX4_lacks 68 = .ok (.ifCond .eq 6, 3) := by decide +kernel
theorem dX4_lacks_71 : decode cX4_lacks 71 = .ok (.iload 4, 2) := by decide +kernel
theorem dX4_lacks_73 : decode cX4_lacks 73 = .ok (.ireturn, 1) := by decide +kernel
theorem dX4_lacks_74 : decode cX4_lacks 74 = .ok (.iinc 4 1, 3) := by decide +kernel
theorem dX4_lacks_77 : decode cX4_lacks 77 = .ok (.goto (-26), 3) := by decide +kernel
theorem dX4_lacks_80 : decode cX4_lacks 80 = .ok (.aload_n 0, 1) := by decide +kernel
theorem dX4_lacks_81 : decode cX4_lacks 81 = .ok (.ldc 38, 2) := by decide +kernel
theorem dX4_lacks_83 : decode cX4_lacks 83 = .ok (.invokevirtual 39, 3) := by decide +kernel
theorem dX4_lacks_86 : decode cX4_lacks 86 = .ok (.ireturn, 1) := by decide +kernel
theorem dX4_trembling_0 : decode cX4_trembling 0 = .ok (.iconst 0, 1) := by decide +kernel
theorem dX4_trembling_1 : decode cX4_trembling 1 = .ok (.istore_n 1, 1) := by decide +kernel
theorem dX4_trembling_2 : decode cX4_trembling 2 = .ok (.iconst 0, 1) := by decide +kernel
theorem dX4_trembling_3 : decode cX4_trembling 3 = .ok (.istore_n 2, 1) := by decide +kernel
theorem dX4_trembling_4 : decode cX4_trembling 4 = .ok (.iload_n 2, 1) := by decide +kernel
theorem dX4_trembling_5 : decode cX4_trembling 5 = .ok (.aload_n 0, 1) := by decide +kernel
theorem dX4_trembling_6 : decode cX4_trembling 6 = .ok (.getfield 9, 3) := by decide +kernel
theorem dX4_trembling_9 : decode cX4_trembling 9 = .ok (.bipush 6, 2) := by decide +kernel
theorem dX4_trembling_11 : decode cX4_trembling 11 = .ok (.iaload, 1) := by decide +kernel
theorem dX4_trembling_12 : decode cX4_trembling 12 = .ok (.if_icmp .ge 50, 3) := by decide +kernel
theorem dX4_trembling_15 : decode cX4_trembling 15 = .ok (.iload_n 1, 1) := by decide +kernel
theorem dX4_trembling_16 : decode cX4_trembling 16 = .ok (.aload_n 0, 1) := by decide +kernel
theorem dX4_trembling_17 : decode cX4_trembling 17 = .ok (.iload_n 2, 1) := by decide +kernel
theorem dX4_trembling_18 : decode cX4_trembling 18 = .ok (.invokevirtual 119, 3) := by decide +kernel
theorem dX4_trembling_21 : decode cX4_trembling 21 = .ok (.ifCond .ne 32, 3) := by decide +kernel
theorem dX4_trembling_24 : decode cX4_trembling 24 = .ok (.aload_n 0, 1) := by decide +kernel
theorem dX4_trembling_25 : decode cX4_trembling 25 = .ok (.aload_n 0, 1) := by decide +kernel
theorem dX4_trembling_26 : decode cX4_trembling 26 = .ok (.iload_n 2, 1) := by decide +kernel
theorem dX4_trembling_27 : decode cX4_trembling 27 = .ok (.invokevirtual 138, 3) := by decide +kernel
theorem dX4_trembling_30 : decode cX4_trembling 30 = .ok (.invokestatic 58, 3) := by decide +kernel
theorem dX4_trembling_33 : decode cX4_trembling 33 = .ok (.aload_n 0, 1) := by decide +kernel
theorem dX4_trembling_34 : decode cX4_trembling 34 = .ok (.iload_n 2, 1) := by decide +kernel
theorem dX4_trembling_35 : decode cX4_trembling 35 = .ok (.invokevirtual 135, 3) := by decide +kernel
theorem dX4_trembling_38 : decode cX4_trembling 38 = .ok (.invokestatic 58, 3) := by decide +kernel
theorem dX4_trembling_41 : decode cX4_trembling 41 = .ok (.invokevirtual 141, 3) := by decide +kernel
theorem dX4_trembling_44 : decode cX4_trembling 44 = .ok (.ifCond .eq 9, 3) := by decide +kernel
theorem dX4_trembling_47 : decode cX4_trembling 47 = .ok (.iconst 1, 1) := by decide +kernel
theorem dX4_trembling_48 : decode cX4_trembling 48 = .ok (.iload_n 2, 1) := by decide +kernel
theorem dX4_trembling_49 : decode cX4_trembling 49 = .ok (.ishl, 1) := by decide +kernel
theorem dX4_trembling_50 : decode cX4_trembling 50 = .ok (.goto 4, 3) := by decide +kernel
theorem dX4_trembling_53 : decode cX4_trembling 53 = .ok (.iconst 0, 1) := by decide +kernel
theorem dX4_trembling_54 : decode cX4_trembling 54 = .ok (.ior, 1) := by decide +kernel
theorem dX4_trembling_55 : decode cX4_trembling 55 = .ok (.istore_n 1, 1) := by decide +kernel
theorem dX4_trembling_56 : decode cX4_trembling 56 = .ok (.iinc 2 1, 3) := by decide +kernel
theorem dX4_trembling_59 : decode cX4_trembling 59 = .ok (.goto (-55), 3) := by decide +kernel
theorem dX4_trembling_62 : decode cX4_trembling 62 = .ok (.iload_n 1, 1) := by decide +kernel
theorem dX4_trembling_63 : decode cX4_trembling 63 = .ok (.ireturn, 1) := by decide +kernel
theorem dX4_tremble_0 : decode cX4_tremble 0 = .ok (.aload_n 0, 1) := by decide +kernel
theorem dX4_tremble_1 : decode cX4_tremble 1 = .ok (.invokevirtual 144, 3) := by decide +kernel
theorem dX4_tremble_4 : decode cX4_tremble 4 = .ok (.ireturn, 1) := by decide +kernel
theorem dX4_heirOf_0 : decode cX4_heirOf 0 = .ok (.aload_n 0, 1) := by decide +kernel
theorem dX4_heirOf_1 : decode cX4_heirOf 1 = .ok (.iload_n 1, 1) := by decide +kernel
theorem dX4_heirOf_2 : decode cX4_heirOf 2 = .ok (.iconst 1, 1) := by decide +kernel
theorem dX4_heirOf_3 : decode cX4_heirOf 3 = .ok (.iadd, 1) := by decide +kernel
theorem dX4_heirOf_4 : decode cX4_heirOf 4 = .ok (.invokevirtual 55, 3) := by decide +kernel
theorem dX4_heirOf_7 : decode cX4_heirOf 7 = .ok (.istore_n 2, 1) := by decide +kernel
theorem dX4_heirOf_8 : decode cX4_heirOf 8 = .ok (.aload_n 0, 1) := by decide +kernel
theorem dX4_heirOf_9 : decode cX4_heirOf 9 = .ok (.getfield 9, 3) := by decide +kernel
theorem dX4_heirOf_12 : decode cX4_heirOf 12 = .ok (.iconst 1, 1) := by decide +kernel
theorem dX4_heirOf_13 : decode cX4_heirOf 13 = .ok (.iaload, 1) := by decide +kernel
theorem dX4_heirOf_14 : decode cX4_heirOf 14 = .ok (.iconst 2, 1) := by decide +kernel
theorem dX4_heirOf_15 : decode cX4_heirOf 15 = .ok (.if_icmp .ge 23, 3) := by decide +kernel
theorem dX4_heirOf_18 : decode cX4_heirOf 18 = .ok (.aload_n 0, 1) := by decide +kernel
theorem dX4_heirOf_19 : decode cX4_heirOf 19 = .ok (.iload_n 2, 1) := by decide +kernel
theorem dX4_heirOf_20 : decode cX4_heirOf 20 = .ok (.aload_n 0, 1) := by decide +kernel
theorem dX4_heirOf_21 : decode cX4_heirOf 21 = .ok (.getfield 9, 3) := by decide +kernel
theorem dX4_heirOf_24 : decode cX4_heirOf 24 = .ok (.iconst 1, 1) := by decide +kernel
theorem dX4_heirOf_25 : decode cX4_heirOf 25 = .ok (.iaload, 1) := by decide +kernel
theorem dX4_heirOf_26 : decode cX4_heirOf 26 = .ok (.ifCond .ne 7, 3) := by decide +kernel
theorem dX4_heirOf_29 : decode cX4_heirOf 29 = .ok (.iconst 2, 1) := by decide +kernel
theorem dX4_heirOf_30 : decode cX4_heirOf 30 = .ok (.goto 4, 3) := by decide +kernel
theorem dX4_heirOf_33 : decode cX4_heirOf 33 = .ok (.iconst 4, 1) := by decide +kernel
theorem dX4_heirOf_34 : decode cX4_heirOf 34 = .ok (.invokevirtual 129, 3) := by decide +kernel
theorem dX4_heirOf_37 : decode cX4_heirOf 37 = .ok (.ireturn, 1) := by decide +kernel
theorem dX4_heirOf_38 : decode cX4_heirOf 38 = .ok (.iconst 0, 1) := by decide +kernel
theorem dX4_heirOf_39 : decode cX4_heirOf 39 = .ok (.istore_n 3, 1) := by decide +kernel
theorem dX4_heirOf_40 : decode cX4_heirOf 40 = .ok (.iload_n 3, 1) := by decide +kernel
theorem dX4_heirOf_41 : decode cX4_heirOf 41 = .ok (.aload_n 0, 1) := by decide +kernel
theorem dX4_heirOf_42 : decode cX4_heirOf 42 = .ok (.getfield 9, 3) := by decide +kernel
theorem dX4_heirOf_45 : decode cX4_heirOf 45 = .ok (.bipush 6, 2) := by decide +kernel
theorem dX4_heirOf_47 : decode cX4_heirOf 47 = .ok (.iaload, 1) := by decide +kernel
theorem dX4_heirOf_48 : decode cX4_heirOf 48 = .ok (.if_icmp .ge 19, 3) := by decide +kernel
theorem dX4_heirOf_51 : decode cX4_heirOf 51 = .ok (.iload_n 2, 1) := by decide +kernel
theorem dX4_heirOf_52 : decode cX4_heirOf 52 = .ok (.iload_n 3, 1) := by decide +kernel
theorem dX4_heirOf_53 : decode cX4_heirOf 53 = .ok (.invokestatic 71, 3) := by decide +kernel
theorem dX4_heirOf_56 : decode cX4_heirOf 56 = .ok (.ifCond .eq 5, 3) := by decide +kernel
theorem dX4_heirOf_59 : decode cX4_heirOf 59 = .ok (.iload_n 3, 1) := by decide +kernel
theorem dX4_heirOf_60 : decode cX4_heirOf 60 = .ok (.ireturn, 1) := by decide +kernel
theorem dX4_heirOf_61 : decode cX4_heirOf 61 = .ok (.iinc 3 1, 3) := by decide +kernel
theorem dX4_heirOf_64 : decode cX4_heirOf 64 = .ok (.goto (-24), 3) := by decide +kernel
theorem dX4_heirOf_67 : decode cX4_heirOf 67 = .ok (.iconst (-1), 1) := by decide +kernel
theorem dX4_heirOf_68 : decode cX4_heirOf 68 = .ok (.ireturn, 1) := by decide +kernel
theorem dX4_heir_0 : decode cX4_heir 0 = .ok (.iload_n 1, 1) := by decide +kernel
theorem dX4_heir_1 : decode cX4_heir 1 = .ok (.i2l, 1) := by decide +kernel
theorem dX4_heir_2 : decode cX4_heir 2 = .ok (.lconst 0, 1) := by decide +kernel
theorem dX4_heir_3 : decode cX4_heir 3 = .ok (.ldc2_w 49, 3) := by decide +kernel
theorem dX4_heir_6 : decode cX4_heir 6 = .ok (.invokestatic 45, 3) := by decide +kernel
theorem dX4_heir_9 : decode cX4_heir 9 = .ok (.ifCond .eq 15, 3) := by decide +kernel
theorem dX4_heir_12 : decode cX4_heir 12 = .ok (.aload_n 0, 1) := by decide +kernel
theorem dX4_heir_13 : decode cX4_heir 13 = .ok (.aload_n 0, 1) := by decide +kernel
theorem dX4_heir_14 : decode cX4_heir 14 = .ok (.iload_n 1, 1) := by decide +kernel
theorem dX4_heir_15 : decode cX4_heir 15 = .ok (.invokevirtual 148, 3) := by decide +kernel
theorem dX4_heir_18 : decode cX4_heir 18 = .ok (.invokevirtual 151, 3) := by decide +kernel
theorem dX4_heir_21 : decode cX4_heir 21 = .ok (.goto 9, 3) := by decide +kernel
theorem dX4_heir_24 : decode cX4_heir 24 = .ok (.aload_n 0, 1) := by decide +kernel
theorem dX4_heir_25 : decode cX4_heir 25 = .ok (.ldc 37, 2) := by decide +kernel
theorem dX4_heir_27 : decode cX4_heir 27 = .ok (.invokevirtual 39, 3) := by decide +kernel
theorem dX4_heir_30 : decode cX4_heir 30 = .ok (.ireturn, 1) := by decide +kernel
theorem dX4_month_0 : decode cX4_month 0 = .ok (.aload_n 0, 1) := by decide +kernel
theorem dX4_month_1 : decode cX4_month 1 = .ok (.invokevirtual 144, 3) := by decide +kernel
theorem dX4_month_4 : decode cX4_month 4 = .ok (.istore_n 1, 1) := by decide +kernel
theorem dX4_month_5 : decode cX4_month 5 = .ok (.iconst 0, 1) := by decide +kernel
theorem dX4_month_6 : decode cX4_month 6 = .ok (.istore_n 2, 1) := by decide +kernel
theorem dX4_month_7 : decode cX4_month 7 = .ok (.iload_n 2, 1) := by decide +kernel
theorem dX4_month_8 : decode cX4_month 8 = .ok (.aload_n 0, 1) := by decide +kernel
theorem dX4_month_9 : decode cX4_month 9 = .ok (.getfield 9, 3) := by decide +kernel
theorem dX4_month_12 : decode cX4_month 12 = .ok (.bipush 6, 2) := by decide +kernel
theorem dX4_month_14 : decode cX4_month 14 = .ok (.iaload, 1) := by decide +kernel
theorem dX4_month_15 : decode cX4_month 15 = .ok (.if_icmp .ge 24, 3) := by decide +kernel
theorem dX4_month_18 : decode cX4_month 18 = .ok (.iload_n 1, 1) := by decide +kernel
theorem dX4_month_19 : decode cX4_month 19 = .ok (.iload_n 2, 1) := by decide +kernel
theorem dX4_month_20 : decode cX4_month 20 = .ok (.invokestatic 71, 3) := by decide +kernel
theorem dX4_month_23 : decode cX4_month 23 = .ok (.ifCond .eq 10, 3) := by decide +kernel
theorem dX4_month_26 : decode cX4_month 26 = .ok (.aload_n 0, 1) := by decide +kernel
theorem dX4_month_27 : decode cX4_month 27 = .ok (.iload_n 2, 1) := by decide +kernel
theorem dX4_month_28 : decode cX4_month 28 = .ok (.iconst 1, 1) := by decide +kernel
theorem dX4_month_29 : decode cX4_month 29 = .ok (.iconst (-1), 1) := by decide +kernel
theorem dX4_month_30 : decode cX4_month 30 = .ok (.invokevirtual 87, 3) := by decide +kernel
theorem dX4_month_33 : decode cX4_month 33 = .ok (.iinc 2 1, 3) := by decide +kernel
theorem dX4_month_36 : decode cX4_month 36 = .ok (.goto (-29), 3) := by decide +kernel
theorem dX4_month_39 : decode cX4_month 39 = .ok (.aload_n 0, 1) := by decide +kernel
theorem dX4_month_40 : decode cX4_month 40 = .ok (.getfield 9, 3) := by decide +kernel
theorem dX4_month_43 : decode cX4_month 43 = .ok (.iconst 4, 1) := by decide +kernel
theorem dX4_month_44 : decode cX4_month 44 = .ok (.dup2, 1) := by decide +kernel
theorem dX4_month_45 : decode cX4_month 45 = .ok (.iaload, 1) := by decide +kernel
theorem dX4_month_46 : decode cX4_month 46 = .ok (.iload_n 1, 1) := by decide +kernel
theorem dX4_month_47 : decode cX4_month 47 = .ok (.invokestatic 58, 3) := by decide +kernel
theorem dX4_month_50 : decode cX4_month 50 = .ok (.iadd, 1) := by decide +kernel
theorem dX4_month_51 : decode cX4_month 51 = .ok (.iastore, 1) := by decide +kernel
theorem dX4_month_52 : decode cX4_month 52 = .ok (.iconst 0, 1) := by decide +kernel
theorem dX4_month_53 : decode cX4_month 53 = .ok (.istore_n 2, 1) := by decide +kernel
theorem dX4_month_54 : decode cX4_month 54 = .ok (.iload_n 2, 1) := by decide +kernel
theorem dX4_month_55 : decode cX4_month 55 = .ok (.bipush 7, 2) := by decide +kernel
theorem dX4_month_57 : decode cX4_month 57 = .ok (.if_icmp .ge 43, 3) := by decide +kernel
theorem dX4_month_60 : decode cX4_month 60 = .ok (.aload_n 0, 1) := by decide +kernel
theorem dX4_month_61 : decode cX4_month 61 = .ok (.iload_n 2, 1) := by decide +kernel
theorem dX4_month_62 : decode cX4_month 62 = .ok (.invokevirtual 148, 3) := by decide +kernel
theorem dX4_month_65 : decode cX4_month 65 = .ok (.istore_n 3, 1) := by decide +kernel
theorem dX4_month_66 : decode cX4_month 66 = .ok (.iload_n 3, 1) := by decide +kernel
theorem dX4_month_67 : decode cX4_month 67 = .ok (.ifCond .lt 27, 3) := by decide +kernel
theorem dX4_month_70 : decode cX4_month 70 = .ok (.aload_n 0, 1) := by decide +kernel
theorem dX4_month_71 : decode cX4_month 71 = .ok (.iload_n 2, 1) := by decide +kernel
theorem dX4_month_72 : decode cX4_month 72 = .ok (.invokevirtual 94, 3) := by decide +kernel
theorem dX4_month_75 : decode cX4_month 75 = .ok (.ifCond .eq 19, 3) := by decide +kernel
theorem dX4_month_78 : decode cX4_month 78 = .ok (.aload_n 0, 1) := by decide +kernel
theorem dX4_month_79 : decode cX4_month 79 = .ok (.iload_n 3, 1) := by decide +kernel
theorem dX4_month_80 : decode cX4_month 80 = .ok (.iconst 1, 1) := by decide +kernel
theorem dX4_month_81 : decode cX4_month 81 = .ok (.iload_n 2, 1) := by decide +kernel
theorem dX4_month_82 : decode cX4_month 82 = .ok (.invokevirtual 87, 3) := by decide +kernel
theorem dX4_month_85 : decode cX4_month 85 = .ok (.aload_n 0, 1) := by decide +kernel
theorem dX4_month_86 : decode cX4_month 86 = .ok (.iload_n 2, 1) := by decide +kernel
theorem dX4_month_87 : decode cX4_month 87 = .ok (.invokevirtual 148, 3) := by decide +kernel
theorem dX4_month_90 : decode cX4_month 90 = .ok (.istore_n 3, 1) := by decide +kernel
theorem dX4_month_91 : decode cX4_month 91 = .ok (.goto (-25), 3) := by decide +kernel
theorem dX4_month_94 : decode cX4_month 94 = .ok (.iinc 2 1, 3) := by decide +kernel
theorem dX4_month_97 : decode cX4_month 97 = .ok (.goto (-43), 3) := by decide +kernel
theorem dX4_month_100 : decode cX4_month 100 = .ok (.aload_n 0, 1) := by decide +kernel
theorem dX4_month_101 : decode cX4_month 101 = .ok (.getfield 9, 3) := by decide +kernel
theorem dX4_month_104 : decode cX4_month 104 = .ok (.iconst 0, 1) := by decide +kernel
theorem dX4_month_105 : decode cX4_month 105 = .ok (.iaload, 1) := by decide +kernel
theorem dX4_month_106 : decode cX4_month 106 = .ok (.bipush 12, 2) := by decide +kernel
theorem dX4_month_108 : decode cX4_month 108 = .ok (.irem, 1) := by decide +kernel
theorem dX4_month_109 : decode cX4_month 109 = .ok (.bipush 11, 2) := by decide +kernel
theorem dX4_month_111 : decode cX4_month 111 = .ok (.if_icmp .ne 7, 3) := by decide +kernel
theorem dX4_month_114 : decode cX4_month 114 = .ok (.iconst 1, 1) := by decide +kernel
theorem dX4_month_115 : decode cX4_month 115 = .ok (.goto 4, 3) := by decide +kernel
theorem dX4_month_118 : decode cX4_month 118 = .ok (.iconst 0, 1) := by decide +kernel
theorem dX4_month_119 : decode cX4_month 119 = .ok (.istore_n 2, 1) := by decide +kernel
theorem dX4_month_120 : decode cX4_month 120 = .ok (.iconst 0, 1) := by decide +kernel
theorem dX4_month_121 : decode cX4_month 121 = .ok (.istore_n 3, 1) := by decide +kernel
theorem dX4_month_122 : decode cX4_month 122 = .ok (.iload_n 3, 1) := by decide +kernel
theorem dX4_month_123 : decode cX4_month 123 = .ok (.aload_n 0, 1) := by decide +kernel
theorem dX4_month_124 : decode cX4_month 124 = .ok (.getfield 9, 3) := by decide +kernel
theorem dX4_month_127 : decode cX4_month 127 = .ok (.bipush 6, 2) := by decide +kernel
theorem dX4_month_129 : decode cX4_month 129 = .ok (.iaload, 1) := by decide +kernel
theorem dX4_month_130 : decode cX4_month 130 = .ok (.if_icmp .ge 86, 3) := by decide +kernel
theorem dX4_month_133 : decode cX4_month 133 = .ok (.aload_n 0, 1) := by decide +kernel
theorem dX4_month_134 : decode cX4_month 134 = .ok (.iload_n 3, 1) := by decide +kernel
theorem dX4_month_135 : decode cX4_month 135 = .ok (.iconst 4, 1) := by decide +kernel
theorem dX4_month_136 : decode cX4_month 136 = .ok (.invokevirtual 51, 3) := by decide +kernel
theorem dX4_month_139 : decode cX4_month 139 = .ok (.bipush 8, 2) := by decide +kernel
theorem dX4_month_141 : decode cX4_month 141 = .ok (.iadd, 1) := by decide +kernel
theorem dX4_month_142 : decode cX4_month 142 = .ok (.aload_n 0, 1) := by decide +kernel
theorem dX4_month_143 : decode cX4_month 143 = .ok (.iload_n 3, 1) := by decide +kernel
theorem dX4_month_144 : decode cX4_month 144 = .ok (.iconst 1, 1) := by decide +kernel
theorem dX4_month_145 : decode cX4_month 145 = .ok (.invokevirtual 51, 3) := by decide +kernel
theorem dX4_month_148 : decode cX4_month 148 = .ok (.isub, 1) := by decide +kernel
theorem dX4_month_149 : decode cX4_month 149 = .ok (.istore 4, 2) := by decide +kernel
theorem dX4_month_151 : decode cX4_month 151 = .ok (.aload_n 0, 1) := by decide +kernel
theorem dX4_month_152 : decode cX4_month 152 = .ok (.iload_n 3, 1) := by decide +kernel
theorem dX4_month_153 : decode cX4_month 153 = .ok (.invokevirtual 119, 3) := by decide +kernel
theorem dX4_month_156 : decode cX4_month 156 = .ok (.ifCond .ne 25, 3) := by decide +kernel
theorem dX4_month_159 : decode cX4_month 159 = .ok (.aload_n 0, 1) := by decide +kernel
theorem dX4_month_160 : decode cX4_month 160 = .ok (.iload_n 3, 1) := by decide +kernel
theorem dX4_month_161 : decode cX4_month 161 = .ok (.iconst 4, 1) := by decide +kernel
theorem dX4_month_162 : decode cX4_month 162 = .ok (.iload 4, 2) := by decide +kernel
theorem dX4_month_164 : decode cX4_month 164 = .ok (.sipush 9999, 3) := by decide +kernel
theorem dX4_month_167 : decode cX4_month 167 = .ok (.if_icmp .le 9, 3) := by decide +kernel
theorem dX4_month_170 : decode cX4_month 170 = .ok (.sipush 9999, 3) := by decide +kernel
theorem dX4_month_173 : decode cX4_month 173 = .ok (.goto 5, 3) := by decide +kernel
theorem dX4_month_176 : decode cX4_month 176 = .ok (.iload 4, 2) := by decide +kernel
theorem dX4_month_178 : decode cX4_month 178 = .ok (.invokevirtual 87, 3) := by decide +kernel
theorem dX4_month_181 : decode cX4_month 181 = .ok (.iload_n 2, 1) := by decide +kernel
theorem dX4_month_182 : decode cX4_month 182 = .ok (.ifCond .eq 28, 3) := by decide +kernel
theorem dX4_month_185 : decode cX4_month 185 = .ok (.aload_n 0, 1) := by decide +kernel
theorem dX4_month_186 : decode cX4_month 186 = .ok (.iload_n 3, 1) := by decide +kernel
theorem dX4_month_187 : decode cX4_month 187 = .ok (.iconst 2, 1) := by decide +kernel
theorem dX4_month_188 : decode cX4_month 188 = .ok (.invokevirtual 51, 3) := by decide +kernel
theorem dX4_month_191 : decode cX4_month 191 = .ok (.bipush 99, 2) := by decide +kernel
theorem dX4_month_193 : decode cX4_month 193 = .ok (.if_icmp .ge 17, 3) := by decide +kernel
theorem dX4_month_196 : decode cX4_month 196 = .ok (.aload_n 0, 1) := by decide +kernel
theorem dX4_month_197 : decode cX4_month 197 = .ok (.iload_n 3, 1) := by decide +kernel
theorem dX4_month_198 : decode cX4_month 198 = .ok (.iconst 2, 1) := by decide +kernel
theorem dX4_month_199 : decode cX4_month 199 = .ok (.aload_n 0, 1) := by decide +kernel
theorem dX4_month_200 : decode cX4_month 200 = .ok (.iload_n 3, 1) := by decide +kernel
theorem dX4_month_201 : decode cX4_month 201 = .ok (.iconst 2, 1) := by decide +kernel
theorem dX4_month_202 : decode cX4_month 202 = .ok (.invokevirtual 51, 3) := by decide +kernel
theorem dX4_month_205 : decode cX4_month 205 = .ok (.iconst 1, 1) := by decide +kernel
theorem dX4_month_206 : decode cX4_month 206 = .ok (.iadd, 1) := by decide +kernel
theorem dX4_month_207 : decode cX4_month 207 = .ok (.invokevirtual 87, 3) := by decide +kernel
theorem dX4_month_210 : decode cX4_month 210 = .ok (.iinc 3 1, 3) := by decide +kernel
theorem dX4_month_213 : decode cX4_month 213 = .ok (.goto (-91), 3) := by decide +kernel
theorem dX4_month_216 : decode cX4_month 216 = .ok (.aload_n 0, 1) := by decide +kernel
theorem dX4_month_217 : decode cX4_month 217 = .ok (.getfield 9, 3) := by decide +kernel
theorem dX4_month_220 : decode cX4_month 220 = .ok (.iconst 0, 1) := by decide +kernel
theorem dX4_month_221 : decode cX4_month 221 = .ok (.dup2, 1) := by decide +kernel
theorem dX4_month_222 : decode cX4_month 222 = .ok (.iaload, 1) := by decide +kernel
theorem dX4_month_223 : decode cX4_month 223 = .ok (.iconst 1, 1) := by decide +kernel
theorem dX4_month_224 : decode cX4_month 224 = .ok (.iadd, 1) := by decide +kernel
theorem dX4_month_225 : decode cX4_month 225 = .ok (.iastore, 1) := by decide +kernel
theorem dX4_month_226 : decode cX4_month 226 = .ok (.return_, 1) := by decide +kernel
theorem dX4_monthsGo_0 : decode cX4_monthsGo 0 = .ok (.iconst 0, 1) := by decide +kernel
theorem dX4_monthsGo_1 : decode cX4_monthsGo 1 = .ok (.istore_n 2, 1) := by decide +kernel
theorem dX4_monthsGo_2 : decode cX4_monthsGo 2 = .ok (.iload_n 2, 1) := by decide +kernel
theorem dX4_monthsGo_3 : decode cX4_monthsGo 3 = .ok (.iload_n 1, 1) := by decide +kernel
theorem dX4_monthsGo_4 : decode cX4_monthsGo 4 = .ok (.if_icmp .ge 13, 3) := by decide +kernel
theorem dX4_monthsGo_7 : decode cX4_monthsGo 7 = .ok (.aload_n 0, 1) := by decide +kernel
theorem dX4_monthsGo_8 : decode cX4_monthsGo 8 = .ok (.invokevirtual 154, 3) := by decide +kernel
theorem dX4_monthsGo_11 : decode cX4_monthsGo 11 = .ok (.iinc 2 1, 3) := by decide +kernel
theorem dX4_monthsGo_14 : decode cX4_monthsGo 14 = .ok (.goto (-12), 3) := by decide +kernel
theorem dX4_monthsGo_17 : decode cX4_monthsGo 17 = .ok (.return_, 1) := by decide +kernel
theorem dX4_wrong_0 : decode cX4_wrong 0 = .ok (.iload 4, 2) := by decide +kernel
theorem dX4_wrong_2 : decode cX4_wrong 2 = .ok (.ifCond .eq 15, 3) := by decide +kernel
theorem dX4_wrong_5 : decode cX4_wrong 5 = .ok (.iload_n 1, 1) := by decide +kernel
theorem dX4_wrong_6 : decode cX4_wrong 6 = .ok (.i2l, 1) := by decide +kernel
theorem dX4_wrong_7 : decode cX4_wrong 7 = .ok (.iload_n 2, 1) := by decide +kernel
theorem dX4_wrong_8 : decode cX4_wrong 8 = .ok (.i2l, 1) := by decide +kernel
theorem dX4_wrong_9 : decode cX4_wrong 9 = .ok (.iload_n 3, 1) := by decide +kernel
theorem dX4_wrong_10 : decode cX4_wrong 10 = .ok (.i2l, 1) := by decide +kernel
theorem dX4_wrong_11 : decode cX4_wrong 11 = .ok (.invokestatic 45, 3) := by decide +kernel
theorem dX4_wrong_14 : decode cX4_wrong 14 = .ok (.ifCond .ne 8, 3) := by decide +kernel
theorem dX4_wrong_17 : decode cX4_wrong 17 = .ok (.ldc 37, 2) := by decide +kernel
theorem dX4_wrong_19 : decode cX4_wrong 19 = .ok (.goto 23, 3) := by decide +kernel
theorem dX4_wrong_22 : decode cX4_wrong 22 = .ok (.aload_n 0, 1) := by decide +kernel
theorem dX4_wrong_23 : decode cX4_wrong 23 = .ok (.getfield 9, 3) := by decide +kernel
theorem dX4_wrong_26 : decode cX4_wrong 26 = .ok (.iconst 0, 1) := by decide +kernel
theorem dX4_wrong_27 : decode cX4_wrong 27 = .ok (.iaload, 1) := by decide +kernel
theorem dX4_wrong_28 : decode cX4_wrong 28 = .ok (.iload_n 1, 1) := by decide +kernel
theorem dX4_wrong_29 : decode cX4_wrong 29 = .ok (.iadd, 1) := by decide +kernel
theorem dX4_wrong_30 : decode cX4_wrong 30 = .ok (.sipush 999, 3) := by decide +kernel
theorem dX4_wrong_33 : decode cX4_wrong 33 = .ok (.if_icmp .le 8, 3) := by decide +kernel
theorem dX4_wrong_36 : decode cX4_wrong 36 = .ok (.ldc 67, 2) := by decide +kernel
theorem dX4_wrong_38 : decode cX4_wrong 38 = .ok (.goto 4, 3) := by decide +kernel
theorem dX4_wrong_41 : decode cX4_wrong 41 = .ok (.iconst 0, 1) := by decide +kernel
theorem dX4_wrong_42 : decode cX4_wrong 42 = .ok (.ireturn, 1) := by decide +kernel
theorem dX4_months_0 : decode cX4_months 0 = .ok (.aload_n 0, 1) := by decide +kernel
theorem dX4_months_1 : decode cX4_months 1 = .ok (.iload_n 1, 1) := by decide +kernel
theorem dX4_months_2 : decode cX4_months 2 = .ok (.iconst 1, 1) := by decide +kernel
theorem dX4_months_3 : decode cX4_months 3 = .ok (.bipush 60, 2) := by decide +kernel
theorem dX4_months_5 : decode cX4_months 5 = .ok (.iconst 1, 1) := by decide +kernel
theorem dX4_months_6 : decode cX4_months 6 = .ok (.invokevirtual 157, 3) := by decide +kernel
theorem dX4_months_9 : decode cX4_months 9 = .ok (.istore_n 2, 1) := by decide +kernel
theorem dX4_months_10 : decode cX4_months 10 = .ok (.iload_n 2, 1) := by decide +kernel
theorem dX4_months_11 : decode cX4_months 11 = .ok (.ifCond .ge 9, 3) := by decide +kernel
theorem dX4_months_14 : decode cX4_months 14 = .ok (.aload_n 0, 1) := by decide +kernel
theorem dX4_months_15 : decode cX4_months 15 = .ok (.iload_n 2, 1) := by decide +kernel
theorem dX4_months_16 : decode cX4_months 16 = .ok (.invokevirtual 39, 3) := by decide +kernel
theorem dX4_months_19 : decode cX4_months 19 = .ok (.ireturn, 1) := by decide +kernel
theorem dX4_months_20 : decode cX4_months 20 = .ok (.aload_n 0, 1) := by decide +kernel
theorem dX4_months_21 : decode cX4_months 21 = .ok (.getfield 9, 3) := by decide +kernel
theorem dX4_months_24 : decode cX4_months 24 = .ok (.iconst 4, 1) := by decide +kernel
theorem dX4_months_25 : decode cX4_months 25 = .ok (.iaload, 1) := by decide +kernel
theorem dX4_months_26 : decode cX4_months 26 = .ok (.istore_n 3, 1) := by decide +kernel
theorem dX4_months_27 : decode cX4_months 27 = .ok (.aload_n 0, 1) := by decide +kernel
theorem dX4_months_28 : decode cX4_months 28 = .ok (.iload_n 1, 1) := by decide +kernel
theorem dX4_months_29 : decode cX4_months 29 = .ok (.invokevirtual 161, 3) := by decide +kernel
theorem dX4_months_32 : decode cX4_months 32 = .ok (.aload_n 0, 1) := by decide +kernel
theorem dX4_months_33 : decode cX4_months 33 = .ok (.getfield 9, 3) := by decide +kernel
theorem dX4_months_36 : decode cX4_months 36 = .ok (.iconst 4, 1) := by decide +kernel
theorem dX4_months_37 : decode cX4_months 37 = .ok (.iaload, 1) := by decide +kernel
theorem dX4_months_38 : decode cX4_months 38 = .ok (.iload_n 3, 1) := by decide +kernel
theorem dX4_months_39 : decode cX4_months 39 = .ok (.isub, 1) := by decide +kernel
theorem dX4_months_40 : decode cX4_months 40 = .ok (.ireturn, 1) := by decide +kernel
theorem dX4_everybody_0 : decode cX4_everybody 0 = .ok (.iconst 1, 1) := by decide +kernel
theorem dX4_everybody_1 : decode cX4_everybody 1 = .ok (.aload_n 0, 1) := by decide +kernel
theorem dX4_everybody_2 : decode cX4_everybody 2 = .ok (.getfield 9, 3) := by decide +kernel
theorem dX4_everybody_5 : decode cX4_everybody 5 = .ok (.bipush 6, 2) := by decide +kernel
theorem dX4_everybody_7 : decode cX4_everybody 7 = .ok (.iaload, 1) := by decide +kernel
theorem dX4_everybody_8 : decode cX4_everybody 8 = .ok (.ishl, 1) := by decide +kernel
theorem dX4_everybody_9 : decode cX4_everybody 9 = .ok (.iconst 1, 1) := by decide +kernel
theorem dX4_everybody_10 : decode cX4_everybody 10 = .ok (.isub, 1) := by decide +kernel
theorem dX4_everybody_11 : decode cX4_everybody 11 = .ok (.ireturn, 1) := by decide +kernel
theorem dX4_behind_0 : decode cX4_behind 0 = .ok (.aload_n 0, 1) := by decide +kernel
theorem dX4_behind_1 : decode cX4_behind 1 = .ok (.getfield 9, 3) := by decide +kernel
theorem dX4_behind_4 : decode cX4_behind 4 = .ok (.aload_n 0, 1) := by decide +kernel
theorem dX4_behind_5 : decode cX4_behind 5 = .ok (.getfield 16, 3) := by decide +kernel
theorem dX4_behind_8 : decode cX4_behind 8 = .ok (.invokestatic 165, 3) := by decide +kernel
theorem dX4_behind_11 : decode cX4_behind 11 = .ok (.aload_n 0, 1) := by decide +kernel
theorem dX4_behind_12 : decode cX4_behind 12 = .ok (.getfield 9, 3) := by decide +kernel
theorem dX4_behind_15 : decode cX4_behind 15 = .ok (.iconst 4, 1) := by decide +kernel
theorem dX4_behind_16 : decode cX4_behind 16 = .ok (.iaload, 1) := by decide +kernel
theorem dX4_behind_17 : decode cX4_behind 17 = .ok (.istore_n 3, 1) := by decide +kernel
theorem dX4_behind_18 : decode cX4_behind 18 = .ok (.aload_n 0, 1) := by decide +kernel
theorem dX4_behind_19 : decode cX4_behind 19 = .ok (.iload_n 1, 1) := by decide +kernel
theorem dX4_behind_20 : decode cX4_behind 20 = .ok (.invokevirtual 161, 3) := by decide +kernel
theorem dX4_behind_23 : decode cX4_behind 23 = .ok (.iload_n 2, 1) := by decide +kernel
theorem dX4_behind_24 : decode cX4_behind 24 = .ok (.ifCond .ne 11, 3) := by decide +kernel
theorem dX4_behind_27 : decode cX4_behind 27 = .ok (.aload_n 0, 1) := by decide +kernel
theorem dX4_behind_28 : decode cX4_behind 28 = .ok (.iconst (-1), 1) := by decide +kernel
theorem dX4_behind_29 : decode cX4_behind 29 = .ok (.invokevirtual 55, 3) := by decide +kernel
theorem dX4_behind_32 : decode cX4_behind 32 = .ok (.goto 56, 3) := by decide +kernel
theorem dX4_behind_35 : decode cX4_behind 35 = .ok (.iload_n 2, 1) := by decide +kernel
theorem dX4_behind_36 : decode cX4_behind 36 = .ok (.iconst 1, 1) := by decide +kernel
theorem dX4_behind_37 : decode cX4_behind 37 = .ok (.if_icmp .ne 14, 3) := by decide +kernel
theorem dX4_behind_40 : decode cX4_behind 40 = .ok (.aload_n 0, 1) := by decide +kernel
theorem dX4_behind_41 : decode cX4_behind 41 = .ok (.getfield 9, 3) := by decide +kernel
theorem dX4_behind_44 : decode cX4_behind 44 = .ok (.iconst 4, 1) := by decide +kernel
theorem dX4_behind_45 : decode cX4_behind 45 = .ok (.iaload, 1) := by decide +kernel
theorem dX4_behind_46 : decode cX4_behind 46 = .ok (.iload_n 3, 1) := by decide +kernel
theorem dX4_behind_47 : decode cX4_behind 47 = .ok (.isub, 1) := by decide +kernel
theorem dX4_behind_48 : decode cX4_behind 48 = .ok (.goto 40, 3) := by decide +kernel
theorem dX4_behind_51 : decode cX4_behind 51 = .ok (.iload_n 2, 1) := by decide +kernel
theorem dX4_behind_52 : decode cX4_behind 52 = .ok (.iconst 2, 1) := by decide +kernel
theorem dX4_behind_53 : decode cX4_behind 53 = .ok (.if_icmp .ne 14, 3) := by decide +kernel
theorem dX4_behind_56 : decode cX4_behind 56 = .ok (.aload_n 0, 1) := by decide +kernel
theorem dX4_behind_57 : decode cX4_behind 57 = .ok (.aload_n 0, 1) := by decide +kernel
theorem dX4_behind_58 : decode cX4_behind 58 = .ok (.invokevirtual 169, 3) := by decide +kernel
theorem dX4_behind_61 : decode cX4_behind 61 = .ok (.invokevirtual 78, 3) := by decide +kernel
theorem dX4_behind_64 : decode cX4_behind 64 = .ok (.goto 24, 3) := by decide +kernel
theorem dX4_behind_67 : decode cX4_behind 67 = .ok (.iload_n 2, 1) := by decide +kernel
theorem dX4_behind_68 : decode cX4_behind 68 = .ok (.iconst 3, 1) := by decide +kernel
theorem dX4_behind_69 : decode cX4_behind 69 = .ok (.if_icmp .ne 11, 3) := by decide +kernel
theorem dX4_behind_72 : decode cX4_behind 72 = .ok (.aload_n 0, 1) := by decide +kernel
theorem dX4_behind_73 : decode cX4_behind 73 = .ok (.iconst 0, 1) := by decide +kernel
theorem dX4_behind_74 : decode cX4_behind 74 = .ok (.invokevirtual 55, 3) := by decide +kernel
theorem dX4_behind_77 : decode cX4_behind 77 = .ok (.goto 11, 3) := by decide +kernel
theorem dX4_behind_80 : decode cX4_behind 80 = .ok (.aload_n 0, 1) := by decide +kernel
theorem dX4_behind_81 : decode cX4_behind 81 = .ok (.iload_n 2, 1) := by decide +kernel
theorem dX4_behind_82 : decode cX4_behind 82 = .ok (.iconst 4, 1) := by decide +kernel
theorem dX4_behind_83 : decode cX4_behind 83 = .ok (.isub, 1) := by decide +kernel
theorem dX4_behind_84 : decode cX4_behind 84 = .ok (.iconst 1, 1) := by decide +kernel
theorem dX4_behind_85 : decode cX4_behind 85 = .ok (.invokevirtual 51, 3) := by decide +kernel
theorem dX4_behind_88 : decode cX4_behind 88 = .ok (.istore 4, 2) := by decide +kernel
theorem dX4_behind_90 : decode cX4_behind 90 = .ok (.aload_n 0, 1) := by decide +kernel
theorem dX4_behind_91 : decode cX4_behind 91 = .ok (.getfield 16, 3) := by decide +kernel
theorem dX4_behind_94 : decode cX4_behind 94 = .ok (.aload_n 0, 1) := by decide +kernel
theorem dX4_behind_95 : decode cX4_behind 95 = .ok (.getfield 9, 3) := by decide +kernel
theorem dX4_behind_98 : decode cX4_behind 98 = .ok (.invokestatic 165, 3) := by decide +kernel
theorem dX4_behind_101 : decode cX4_behind 101 = .ok (.iload 4, 2) := by decide +kernel
theorem dX4_behind_103 : decode cX4_behind 103 = .ok (.ireturn, 1) := by decide +kernel
theorem dX4_ahead_0 : decode cX4_ahead 0 = .ok (.aload_n 0, 1) := by decide +kernel
theorem dX4_ahead_1 : decode cX4_ahead 1 = .ok (.iload_n 1, 1) := by decide +kernel
theorem dX4_ahead_2 : decode cX4_ahead 2 = .ok (.iconst 0, 1) := by decide +kernel
theorem dX4_ahead_3 : decode cX4_ahead 3 = .ok (.bipush 120, 2) := by decide +kernel
theorem dX4_ahead_5 : decode cX4_ahead 5 = .ok (.iload_n 2, 1) := by decide +kernel
theorem dX4_ahead_6 : decode cX4_ahead 6 = .ok (.i2l, 1) := by decide +kernel
theorem dX4_ahead_7 : decode cX4_ahead 7 = .ok (.lconst 0, 1) := by decide +kernel
theorem dX4_ahead_8 : decode cX4_ahead 8 = .ok (.iconst 3, 1) := by decide +kernel
theorem dX4_ahead_9 : decode cX4_ahead 9 = .ok (.aload_n 0, 1) := by decide +kernel
theorem dX4_ahead_10 : decode cX4_ahead 10 = .ok (.getfield 9, 3) := by decide +kernel
theorem dX4_ahead_13 : decode cX4_ahead 13 = .ok (.bipush 6, 2) := by decide +kernel
theorem dX4_ahead_15 : decode cX4_ahead 15 = .ok (.iaload, 1) := by decide +kernel
theorem dX4_ahead_16 : decode cX4_ahead 16 = .ok (.iadd, 1) := by decide +kernel
theorem dX4_ahead_17 : decode cX4_ahead 17 = .ok (.i2l, 1) := by decide +kernel
theorem dX4_ahead_18 : decode cX4_ahead 18 = .ok (.invokestatic 45, 3) := by decide +kernel
theorem dX4_ahead_21 : decode cX4_ahead 21 = .ok (.invokevirtual 157, 3) := by decide +kernel
theorem dX4_ahead_24 : decode cX4_ahead 24 = .ok (.istore_n 3, 1) := by decide +kernel
theorem dX4_ahead_25 : decode cX4_ahead 25 = .ok (.iload_n 3, 1) := by decide +kernel
theorem dX4_ahead_26 : decode cX4_ahead 26 = .ok (.ifCond .ge 11, 3) := by decide +kernel
theorem dX4_ahead_29 : decode cX4_ahead 29 = .ok (.aload_n 0, 1) := by decide +kernel
theorem dX4_ahead_30 : decode cX4_ahead 30 = .ok (.iload_n 3, 1) := by decide +kernel
theorem dX4_ahead_31 : decode cX4_ahead 31 = .ok (.invokevirtual 39, 3) := by decide +kernel
theorem dX4_ahead_34 : decode cX4_ahead 34 = .ok (.goto 9, 3) := by decide +kernel
theorem dX4_ahead_37 : decode cX4_ahead 37 = .ok (.aload_n 0, 1) := by decide +kernel
theorem dX4_ahead_38 : decode cX4_ahead 38 = .ok (.iload_n 1, 1) := by decide +kernel
theorem dX4_ahead_39 : decode cX4_ahead 39 = .ok (.iload_n 2, 1) := by decide +kernel
theorem dX4_ahead_40 : decode cX4_ahead 40 = .ok (.invokevirtual 172, 3) := by decide +kernel
theorem dX4_ahead_43 : decode cX4_ahead 43 = .ok (.ireturn, 1) := by decide +kernel
theorem dX4_sits_0 : decode cX4_sits 0 = .ok (.aload_n 0, 1) := by decide +kernel
theorem dX4_sits_1 : decode cX4_sits 1 = .ok (.iload_n 1, 1) := by decide +kernel
theorem dX4_sits_2 : decode cX4_sits 2 = .ok (.invokevirtual 101, 3) := by decide +kernel
theorem dX4_sits_5 : decode cX4_sits 5 = .ok (.ifCond .ne 10, 3) := by decide +kernel
theorem dX4_sits_8 : decode cX4_sits 8 = .ok (.aload_n 0, 1) := by decide +kernel
theorem dX4_sits_9 : decode cX4_sits 9 = .ok (.ldc 37, 2) := by decide +kernel
theorem dX4_sits_11 : decode cX4_sits 11 = .ok (.invokevirtual 39, 3) := by decide +kernel
theorem dX4_sits_14 : decode cX4_sits 14 = .ok (.ireturn, 1) := by decide +kernel
theorem dX4_sits_15 : decode cX4_sits 15 = .ok (.aload_n 0, 1) := by decide +kernel
theorem dX4_sits_16 : decode cX4_sits 16 = .ok (.iload_n 1, 1) := by decide +kernel
theorem dX4_sits_17 : decode cX4_sits 17 = .ok (.invokevirtual 119, 3) := by decide +kernel
theorem dX4_sits_20 : decode cX4_sits 20 = .ok (.ifCond .ne 18, 3) := by decide +kernel
theorem dX4_sits_23 : decode cX4_sits 23 = .ok (.aload_n 0, 1) := by decide +kernel
theorem dX4_sits_24 : decode cX4_sits 24 = .ok (.getfield 9, 3) := by decide +kernel
theorem dX4_sits_27 : decode cX4_sits 27 = .ok (.iconst 0, 1) := by decide +kernel
theorem dX4_sits_28 : decode cX4_sits 28 = .ok (.iaload, 1) := by decide +kernel
theorem dX4_sits_29 : decode cX4_sits 29 = .ok (.bipush 120, 2) := by decide +kernel
theorem dX4_sits_31 : decode cX4_sits 31 = .ok (.iadd, 1) := by decide +kernel
theorem dX4_sits_32 : decode cX4_sits 32 = .ok (.sipush 999, 3) := by decide +kernel
theorem dX4_sits_35 : decode cX4_sits 35 = .ok (.if_icmp .le 10, 3) := by decide +kernel
theorem dX4_sits_38 : decode cX4_sits 38 = .ok (.aload_n 0, 1) := by decide +kernel
theorem dX4_sits_39 : decode cX4_sits 39 = .ok (.ldc 67, 2) := by decide +kernel
theorem dX4_sits_41 : decode cX4_sits 41 = .ok (.invokevirtual 39, 3) := by decide +kernel
theorem dX4_sits_44 : decode cX4_sits 44 = .ok (.ireturn, 1) := by decide +kernel
theorem dX4_sits_45 : decode cX4_sits 45 = .ok (.aload_n 0, 1) := by decide +kernel
theorem dX4_sits_46 : decode cX4_sits 46 = .ok (.getfield 9, 3) := by decide +kernel
theorem dX4_sits_49 : decode cX4_sits 49 = .ok (.aload_n 0, 1) := by decide +kernel
theorem dX4_sits_50 : decode cX4_sits 50 = .ok (.getfield 16, 3) := by decide +kernel
theorem dX4_sits_53 : decode cX4_sits 53 = .ok (.invokestatic 165, 3) := by decide +kernel
theorem dX4_sits_56 : decode cX4_sits 56 = .ok (.iconst 0, 1) := by decide +kernel
theorem dX4_sits_57 : decode cX4_sits 57 = .ok (.istore_n 2, 1) := by decide +kernel
theorem dX4_sits_58 : decode cX4_sits 58 = .ok (.iload_n 2, 1) := by decide +kernel
theorem dX4_sits_59 : decode cX4_sits 59 = .ok (.bipush 120, 2) := by decide +kernel
theorem dX4_sits_61 : decode cX4_sits 61 = .ok (.if_icmp .ge 21, 3) := by decide +kernel
theorem dX4_sits_64 : decode cX4_sits 64 = .ok (.aload_n 0, 1) := by decide +kernel
theorem dX4_sits_65 : decode cX4_sits 65 = .ok (.iload_n 1, 1) := by decide +kernel
theorem dX4_sits_66 : decode cX4_sits 66 = .ok (.invokevirtual 119, 3) := by decide +kernel
theorem dX4_sits_69 : decode cX4_sits 69 = .ok (.ifCond .ne 13, 3) := by decide +kernel
theorem dX4_sits_72 : decode cX4_sits 72 = .ok (.aload_n 0, 1) := by decide +kernel
theorem dX4_sits_73 : decode cX4_sits 73 = .ok (.invokevirtual 154, 3) := by decide +kernel
theorem dX4_sits_76 : decode cX4_sits 76 = .ok (.iinc 2 1, 3) := by decide +kernel
theorem dX4_sits_79 : decode cX4_sits 79 = .ok (.goto (-21), 3) := by decide +kernel
theorem dX4_sits_82 : decode cX4_sits 82 = .ok (.aload_n 0, 1) := by decide +kernel
theorem dX4_sits_83 : decode cX4_sits 83 = .ok (.iload_n 1, 1) := by decide +kernel
theorem dX4_sits_84 : decode cX4_sits 84 = .ok (.invokevirtual 119, 3) := by decide +kernel
theorem dX4_sits_87 : decode cX4_sits 87 = .ok (.istore_n 3, 1) := by decide +kernel
theorem dX4_sits_88 : decode cX4_sits 88 = .ok (.aload_n 0, 1) := by decide +kernel
theorem dX4_sits_89 : decode cX4_sits 89 = .ok (.getfield 16, 3) := by decide +kernel
theorem dX4_sits_92 : decode cX4_sits 92 = .ok (.aload_n 0, 1) := by decide +kernel
theorem dX4_sits_93 : decode cX4_sits 93 = .ok (.getfield 9, 3) := by decide +kernel
theorem dX4_sits_96 : decode cX4_sits 96 = .ok (.invokestatic 165, 3) := by decide +kernel
theorem dX4_sits_99 : decode cX4_sits 99 = .ok (.iload_n 3, 1) := by decide +kernel
theorem dX4_sits_100 : decode cX4_sits 100 = .ok (.ifCond .eq 7, 3) := by decide +kernel
theorem dX4_sits_103 : decode cX4_sits 103 = .ok (.iload_n 2, 1) := by decide +kernel
theorem dX4_sits_104 : decode cX4_sits 104 = .ok (.goto 9, 3) := by decide +kernel
theorem dX4_sits_107 : decode cX4_sits 107 = .ok (.aload_n 0, 1) := by decide +kernel
theorem dX4_sits_108 : decode cX4_sits 108 = .ok (.ldc 38, 2) := by decide +kernel
theorem dX4_sits_110 : decode cX4_sits 110 = .ok (.invokevirtual 39, 3) := by decide +kernel
theorem dX4_sits_113 : decode cX4_sits 113 = .ok (.ireturn, 1) := by decide +kernel
theorem dX4_rises_0 : decode cX4_rises 0 = .ok (.aload_n 0, 1) := by decide +kernel
theorem dX4_rises_1 : decode cX4_rises 1 = .ok (.iload_n 2, 1) := by decide +kernel
theorem dX4_rises_2 : decode cX4_rises 2 = .ok (.iconst 0, 1) := by decide +kernel
theorem dX4_rises_3 : decode cX4_rises 3 = .ok (.bipush 120, 2) := by decide +kernel
theorem dX4_rises_5 : decode cX4_rises 5 = .ok (.aload_n 0, 1) := by decide +kernel
theorem dX4_rises_6 : decode cX4_rises 6 = .ok (.iload_n 1, 1) := by decide +kernel
theorem dX4_rises_7 : decode cX4_rises 7 = .ok (.invokevirtual 101, 3) := by decide +kernel
theorem dX4_rises_10 : decode cX4_rises 10 = .ok (.invokevirtual 157, 3) := by decide +kernel
theorem dX4_rises_13 : decode cX4_rises 13 = .ok (.istore_n 3, 1) := by decide +kernel
theorem dX4_rises_14 : decode cX4_rises 14 = .ok (.iload_n 3, 1) := by decide +kernel
theorem dX4_rises_15 : decode cX4_rises 15 = .ok (.ifCond .ge 9, 3) := by decide +kernel
theorem dX4_rises_18 : decode cX4_rises 18 = .ok (.aload_n 0, 1) := by decide +kernel
theorem dX4_rises_19 : decode cX4_rises 19 = .ok (.iload_n 3, 1) := by decide +kernel
theorem dX4_rises_20 : decode cX4_rises 20 = .ok (.invokevirtual 39, 3) := by decide +kernel
theorem dX4_rises_23 : decode cX4_rises 23 = .ok (.ireturn, 1) := by decide +kernel
theorem dX4_rises_24 : decode cX4_rises 24 = .ok (.aload_n 0, 1) := by decide +kernel
theorem dX4_rises_25 : decode cX4_rises 25 = .ok (.getfield 9, 3) := by decide +kernel
theorem dX4_rises_28 : decode cX4_rises 28 = .ok (.aload_n 0, 1) := by decide +kernel
theorem dX4_rises_29 : decode cX4_rises 29 = .ok (.getfield 16, 3) := by decide +kernel
theorem dX4_rises_32 : decode cX4_rises 32 = .ok (.invokestatic 165, 3) := by decide +kernel
theorem dX4_rises_35 : decode cX4_rises 35 = .ok (.bipush 8, 2) := by decide +kernel
theorem dX4_rises_37 : decode cX4_rises 37 = .ok (.istore 4, 2) := by decide +kernel
theorem dX4_rises_39 : decode cX4_rises 39 = .ok (.iconst 0, 1) := by decide +kernel
theorem dX4_rises_40 : decode cX4_rises 40 = .ok (.istore 5, 2) := by decide +kernel
theorem dX4_rises_42 : decode cX4_rises 42 = .ok (.iload 5, 2) := by decide +kernel
theorem dX4_rises_44 : decode cX4_rises 44 = .ok (.iload_n 2, 1) := by decide +kernel
theorem dX4_rises_45 : decode cX4_rises 45 = .ok (.if_icmp .gt 46, 3) := by decide +kernel
theorem dX4_rises_48 : decode cX4_rises 48 = .ok (.aload_n 0, 1) := by decide +kernel
theorem dX4_rises_49 : decode cX4_rises 49 = .ok (.iload_n 1, 1) := by decide +kernel
theorem dX4_rises_50 : decode cX4_rises 50 = .ok (.invokevirtual 119, 3) := by decide +kernel
theorem dX4_rises_53 : decode cX4_rises 53 = .ok (.ifCond .ne 22, 3) := by decide +kernel
theorem dX4_rises_56 : decode cX4_rises 56 = .ok (.aload_n 0, 1) := by decide +kernel
theorem dX4_rises_57 : decode cX4_rises 57 = .ok (.iload_n 1, 1) := by decide +kernel
theorem dX4_rises_58 : decode cX4_rises 58 = .ok (.iconst 1, 1) := by decide +kernel
theorem dX4_rises_59 : decode cX4_rises 59 = .ok (.invokevirtual 51, 3) := by decide +kernel
theorem dX4_rises_62 : decode cX4_rises 62 = .ok (.iload 4, 2) := by decide +kernel
theorem dX4_rises_64 : decode cX4_rises 64 = .ok (.if_icmp .ge 11, 3) := by decide +kernel
theorem dX4_rises_67 : decode cX4_rises 67 = .ok (.aload_n 0, 1) := by decide +kernel
theorem dX4_rises_68 : decode cX4_rises 68 = .ok (.iload_n 1, 1) := by decide +kernel
theorem dX4_rises_69 : decode cX4_rises 69 = .ok (.iconst 1, 1) := by decide +kernel
theorem dX4_rises_70 : decode cX4_rises 70 = .ok (.invokevirtual 51, 3) := by decide +kernel
theorem dX4_rises_73 : decode cX4_rises 73 = .ok (.istore 4, 2) := by decide +kernel
theorem dX4_rises_75 : decode cX4_rises 75 = .ok (.iload 5, 2) := by decide +kernel
theorem dX4_rises_77 : decode cX4_rises 77 = .ok (.iload_n 2, 1) := by decide +kernel
theorem dX4_rises_78 : decode cX4_rises 78 = .ok (.if_icmp .ge 7, 3) := by decide +kernel
theorem dX4_rises_81 : decode cX4_rises 81 = .ok (.aload_n 0, 1) := by decide +kernel
theorem dX4_rises_82 : decode cX4_rises 82 = .ok (.invokevirtual 154, 3) := by decide +kernel
theorem dX4_rises_85 : decode cX4_rises 85 = .ok (.iinc 5 1, 3) := by decide +kernel
theorem dX4_rises_88 : decode cX4_rises 88 = .ok (.goto (-46), 3) := by decide +kernel
theorem dX4_rises_91 : decode cX4_rises 91 = .ok (.aload_n 0, 1) := by decide +kernel
theorem dX4_rises_92 : decode cX4_rises 92 = .ok (.getfield 16, 3) := by decide +kernel
theorem dX4_rises_95 : decode cX4_rises 95 = .ok (.aload_n 0, 1) := by decide +kernel
theorem dX4_rises_96 : decode cX4_rises 96 = .ok (.getfield 9, 3) := by decide +kernel
theorem dX4_rises_99 : decode cX4_rises 99 = .ok (.invokestatic 165, 3) := by decide +kernel
theorem dX4_rises_102 : decode cX4_rises 102 = .ok (.iload 4, 2) := by decide +kernel
theorem dX4_rises_104 : decode cX4_rises 104 = .ok (.bipush 8, 2) := by decide +kernel
theorem dX4_rises_106 : decode cX4_rises 106 = .ok (.if_icmp .ne 12, 3) := by decide +kernel
theorem dX4_rises_109 : decode cX4_rises 109 = .ok (.aload_n 0, 1) := by decide +kernel
theorem dX4_rises_110 : decode cX4_rises 110 = .ok (.ldc 38, 2) := by decide +kernel
theorem dX4_rises_112 : decode cX4_rises 112 = .ok (.invokevirtual 39, 3) := by decide +kernel
theorem dX4_rises_115 : decode cX4_rises 115 = .ok (.goto 5, 3) := by decide +kernel
theorem dX4_rises_118 : decode cX4_rises 118 = .ok (.iload 4, 2) := by decide +kernel
theorem dX4_rises_120 : decode cX4_rises 120 = .ok (.ireturn, 1) := by decide +kernel
theorem dX4_goldBehind_0 : decode cX4_goldBehind 0 = .ok (.aload_n 0, 1) := by decide +kernel
theorem dX4_goldBehind_1 : decode cX4_goldBehind 1 = .ok (.getfield 9, 3) := by decide +kernel
theorem dX4_goldBehind_4 : decode cX4_goldBehind 4 = .ok (.aload_n 0, 1) := by decide +kernel
theorem dX4_goldBehind_5 : decode cX4_goldBehind 5 = .ok (.getfield 16, 3) := by decide +kernel
theorem dX4_goldBehind_8 : decode cX4_goldBehind 8 = .ok (.invokestatic 165, 3) := by decide +kernel
theorem dX4_goldBehind_11 : decode cX4_goldBehind 11 = .ok (.aload_n 0, 1) := by decide +kernel
theorem dX4_goldBehind_12 : decode cX4_goldBehind 12 = .ok (.iload_n 2, 1) := by decide +kernel
theorem dX4_goldBehind_13 : decode cX4_goldBehind 13 = .ok (.invokevirtual 161, 3) := by decide +kernel
theorem dX4_goldBehind_16 : decode cX4_goldBehind 16 = .ok (.aload_n 0, 1) := by decide +kernel
theorem dX4_goldBehind_17 : decode cX4_goldBehind 17 = .ok (.iload_n 1, 1) := by decide +kernel
theorem dX4_goldBehind_18 : decode cX4_goldBehind 18 = .ok (.iconst 4, 1) := by decide +kernel
theorem dX4_goldBehind_19 : decode cX4_goldBehind 19 = .ok (.invokevirtual 51, 3) := by decide +kernel
theorem dX4_goldBehind_22 : decode cX4_goldBehind 22 = .ok (.istore_n 3, 1) := by decide +kernel
theorem dX4_goldBehind_23 : decode cX4_goldBehind 23 = .ok (.aload_n 0, 1) := by decide +kernel
theorem dX4_goldBehind_24 : decode cX4_goldBehind 24 = .ok (.getfield 16, 3) := by decide +kernel
theorem dX4_goldBehind_27 : decode cX4_goldBehind 27 = .ok (.aload_n 0, 1) := by decide +kernel
theorem dX4_goldBehind_28 : decode cX4_goldBehind 28 = .ok (.getfield 9, 3) := by decide +kernel
theorem dX4_goldBehind_31 : decode cX4_goldBehind 31 = .ok (.invokestatic 165, 3) := by decide +kernel
theorem dX4_goldBehind_34 : decode cX4_goldBehind 34 = .ok (.iload_n 3, 1) := by decide +kernel
theorem dX4_goldBehind_35 : decode cX4_goldBehind 35 = .ok (.ireturn, 1) := by decide +kernel
theorem dX4_worth_0 : decode cX4_worth 0 = .ok (.aload_n 0, 1) := by decide +kernel
theorem dX4_worth_1 : decode cX4_worth 1 = .ok (.iload_n 3, 1) := by decide +kernel
theorem dX4_worth_2 : decode cX4_worth 2 = .ok (.iconst 1, 1) := by decide +kernel
theorem dX4_worth_3 : decode cX4_worth 3 = .ok (.bipush 120, 2) := by decide +kernel
theorem dX4_worth_5 : decode cX4_worth 5 = .ok (.aload_n 0, 1) := by decide +kernel
theorem dX4_worth_6 : decode cX4_worth 6 = .ok (.iload_n 1, 1) := by decide +kernel
theorem dX4_worth_7 : decode cX4_worth 7 = .ok (.invokevirtual 101, 3) := by decide +kernel
theorem dX4_worth_10 : decode cX4_worth 10 = .ok (.ifCond .eq 14, 3) := by decide +kernel
theorem dX4_worth_13 : decode cX4_worth 13 = .ok (.iload_n 2, 1) := by decide +kernel
theorem dX4_worth_14 : decode cX4_worth 14 = .ok (.invokestatic 61, 3) := by decide +kernel
theorem dX4_worth_17 : decode cX4_worth 17 = .ok (.ifCond .eq 7, 3) := by decide +kernel
theorem dX4_worth_20 : decode cX4_worth 20 = .ok (.iconst 1, 1) := by decide +kernel
theorem dX4_worth_21 : decode cX4_worth 21 = .ok (.goto 4, 3) := by decide +kernel
theorem dX4_worth_24 : decode cX4_worth 24 = .ok (.iconst 0, 1) := by decide +kernel
theorem dX4_worth_25 : decode cX4_worth 25 = .ok (.invokevirtual 157, 3) := by decide +kernel
theorem dX4_worth_28 : decode cX4_worth 28 = .ok (.istore 4, 2) := by decide +kernel
theorem dX4_worth_30 : decode cX4_worth 30 = .ok (.iload 4, 2) := by decide +kernel
theorem dX4_worth_32 : decode cX4_worth 32 = .ok (.ifCond .ge 10, 3) := by decide +kernel
theorem dX4_worth_35 : decode cX4_worth 35 = .ok (.aload_n 0, 1) := by decide +kernel
theorem dX4_worth_36 : decode cX4_worth 36 = .ok (.iload 4, 2) := by decide +kernel
theorem dX4_worth_38 : decode cX4_worth 38 = .ok (.invokevirtual 39, 3) := by decide +kernel
theorem dX4_worth_41 : decode cX4_worth 41 = .ok (.ireturn, 1) := by decide +kernel
theorem dX4_worth_42 : decode cX4_worth 42 = .ok (.aload_n 0, 1) := by decide +kernel
theorem dX4_worth_43 : decode cX4_worth 43 = .ok (.iload_n 1, 1) := by decide +kernel
theorem dX4_worth_44 : decode cX4_worth 44 = .ok (.iconst 1, 1) := by decide +kernel
theorem dX4_worth_45 : decode cX4_worth 45 = .ok (.invokevirtual 51, 3) := by decide +kernel
theorem dX4_worth_48 : decode cX4_worth 48 = .ok (.istore 5, 2) := by decide +kernel
theorem dX4_worth_50 : decode cX4_worth 50 = .ok (.aload_n 0, 1) := by decide +kernel
theorem dX4_worth_51 : decode cX4_worth 51 = .ok (.iload_n 1, 1) := by decide +kernel
theorem dX4_worth_52 : decode cX4_worth 52 = .ok (.iconst 1, 1) := by decide +kernel
theorem dX4_worth_53 : decode cX4_worth 53 = .ok (.iload_n 2, 1) := by decide +kernel
theorem dX4_worth_54 : decode cX4_worth 54 = .ok (.invokevirtual 87, 3) := by decide +kernel
theorem dX4_worth_57 : decode cX4_worth 57 = .ok (.aload_n 0, 1) := by decide +kernel
theorem dX4_worth_58 : decode cX4_worth 58 = .ok (.iload_n 1, 1) := by decide +kernel
theorem dX4_worth_59 : decode cX4_worth 59 = .ok (.iload_n 3, 1) := by decide +kernel
theorem dX4_worth_60 : decode cX4_worth 60 = .ok (.invokevirtual 175, 3) := by decide +kernel
theorem dX4_worth_63 : decode cX4_worth 63 = .ok (.istore 6, 2) := by decide +kernel
theorem dX4_worth_65 : decode cX4_worth 65 = .ok (.aload_n 0, 1) := by decide +kernel
theorem dX4_worth_66 : decode cX4_worth 66 = .ok (.iload_n 1, 1) := by decide +kernel
theorem dX4_worth_67 : decode cX4_worth 67 = .ok (.iconst 1, 1) := by decide +kernel
theorem dX4_worth_68 : decode cX4_worth 68 = .ok (.iconst (-1), 1) := by decide +kernel
theorem dX4_worth_69 : decode cX4_worth 69 = .ok (.invokevirtual 87, 3) := by decide +kernel
theorem dX4_worth_72 : decode cX4_worth 72 = .ok (.aload_n 0, 1) := by decide +kernel
theorem dX4_worth_73 : decode cX4_worth 73 = .ok (.iload_n 1, 1) := by decide +kernel
theorem dX4_worth_74 : decode cX4_worth 74 = .ok (.iload_n 3, 1) := by decide +kernel
theorem dX4_worth_75 : decode cX4_worth 75 = .ok (.invokevirtual 175, 3) := by decide +kernel
theorem dX4_worth_78 : decode cX4_worth 78 = .ok (.istore 7, 2) := by decide +kernel
theorem dX4_worth_80 : decode cX4_worth 80 = .ok (.aload_n 0, 1) := by decide +kernel
theorem dX4_worth_81 : decode cX4_worth 81 = .ok (.iload_n 1, 1) := by decide +kernel
theorem dX4_worth_82 : decode cX4_worth 82 = .ok (.iconst 1, 1) := by decide +kernel
theorem dX4_worth_83 : decode cX4_worth 83 = .ok (.iload 5, 2) := by decide +kernel
theorem dX4_worth_85 : decode cX4_worth 85 = .ok (.invokevirtual 87, 3) := by decide +kernel
theorem dX4_worth_88 : decode cX4_worth 88 = .ok (.iload 6, 2) := by decide +kernel
theorem dX4_worth_90 : decode cX4_worth 90 = .ok (.iload 7, 2) := by decide +kernel
theorem dX4_worth_92 : decode cX4_worth 92 = .ok (.isub, 1) := by decide +kernel
theorem dX4_worth_93 : decode cX4_worth 93 = .ok (.ireturn, 1) := by decide +kernel
theorem dX4_least_0 : decode cX4_least 0 = .ok (.aload_n 0, 1) := by decide +kernel
theorem dX4_least_1 : decode cX4_least 1 = .ok (.iload_n 1, 1) := by decide +kernel
theorem dX4_least_2 : decode cX4_least 2 = .ok (.invokevirtual 101, 3) := by decide +kernel
theorem dX4_least_5 : decode cX4_least 5 = .ok (.ifCond .eq 15, 3) := by decide +kernel
theorem dX4_least_8 : decode cX4_least 8 = .ok (.iload_n 2, 1) := by decide +kernel
theorem dX4_least_9 : decode cX4_least 9 = .ok (.i2l, 1) := by decide +kernel
theorem dX4_least_10 : decode cX4_least 10 = .ok (.lconst 1, 1) := by decide +kernel
theorem dX4_least_11 : decode cX4_least 11 = .ok (.ldc2_w 178, 3) := by decide +kernel
theorem dX4_least_14 : decode cX4_least 14 = .ok (.invokestatic 45, 3) := by decide +kernel
theorem dX4_least_17 : decode cX4_least 17 = .ok (.ifCond .ne 10, 3) := by decide +kernel
theorem dX4_least_20 : decode cX4_least 20 = .ok (.aload_n 0, 1) := by decide +kernel
theorem dX4_least_21 : decode cX4_least 21 = .ok (.ldc 37, 2) := by decide +kernel
theorem dX4_least_23 : decode cX4_least 23 = .ok (.invokevirtual 39, 3) := by decide +kernel
theorem dX4_least_26 : decode cX4_least 26 = .ok (.ireturn, 1) := by decide +kernel
theorem dX4_least_27 : decode cX4_least 27 = .ok (.aload_n 0, 1) := by decide +kernel
theorem dX4_least_28 : decode cX4_least 28 = .ok (.iload_n 1, 1) := by decide +kernel
theorem dX4_least_29 : decode cX4_least 29 = .ok (.iconst 5, 1) := by decide +kernel
theorem dX4_least_30 : decode cX4_least 30 = .ok (.invokevirtual 51, 3) := by decide +kernel
theorem dX4_least_33 : decode cX4_least 33 = .ok (.istore_n 3, 1) := by decide +kernel
theorem dX4_least_34 : decode cX4_least 34 = .ok (.iload_n 3, 1) := by decide +kernel
theorem dX4_least_35 : decode cX4_least 35 = .ok (.ifCond .lt 25, 3) := by decide +kernel
theorem dX4_least_38 : decode cX4_least 38 = .ok (.aload_n 0, 1) := by decide +kernel
theorem dX4_least_39 : decode cX4_least 39 = .ok (.iload_n 3, 1) := by decide +kernel
theorem dX4_least_40 : decode cX4_least 40 = .ok (.invokevirtual 119, 3) := by decide +kernel
theorem dX4_least_43 : decode cX4_least 43 = .ok (.ifCond .ne 17, 3) := by decide +kernel
theorem dX4_least_46 : decode cX4_least 46 = .ok (.aload_n 0, 1) := by decide +kernel
theorem dX4_least_47 : decode cX4_least 47 = .ok (.getfield 9, 3) := by decide +kernel
theorem dX4_least_50 : decode cX4_least 50 = .ok (.iconst 0, 1) := by decide +kernel
theorem dX4_least_51 : decode cX4_least 51 = .ok (.iaload, 1) := by decide +kernel
theorem dX4_least_52 : decode cX4_least 52 = .ok (.iload_n 2, 1) := by decide +kernel
theorem dX4_least_53 : decode cX4_least 53 = .ok (.iadd, 1) := by decide +kernel
theorem dX4_least_54 : decode cX4_least 54 = .ok (.sipush 999, 3) := by decide +kernel
theorem dX4_least_57 : decode cX4_least 57 = .ok (.if_icmp .le 10, 3) := by decide +kernel
theorem dX4_least_60 : decode cX4_least 60 = .ok (.aload_n 0, 1) := by decide +kernel
theorem dX4_least_61 : decode cX4_least 61 = .ok (.ldc 67, 2) := by decide +kernel
theorem dX4_least_63 : decode cX4_least 63 = .ok (.invokevirtual 39, 3) := by decide +kernel
theorem dX4_least_66 : decode cX4_least 66 = .ok (.ireturn, 1) := by decide +kernel
theorem dX4_least_67 : decode cX4_least 67 = .ok (.aload_n 0, 1) := by decide +kernel
theorem dX4_least_68 : decode cX4_least 68 = .ok (.getfield 9, 3) := by decide +kernel
theorem dX4_least_71 : decode cX4_least 71 = .ok (.aload_n 0, 1) := by decide +kernel
theorem dX4_least_72 : decode cX4_least 72 = .ok (.getfield 19, 3) := by decide +kernel
theorem dX4_least_75 : decode cX4_least 75 = .ok (.invokestatic 165, 3) := by decide +kernel
theorem dX4_least_78 : decode cX4_least 78 = .ok (.iconst (-1), 1) := by decide +kernel
theorem dX4_least_79 : decode cX4_least 79 = .ok (.istore 4, 2) := by decide +kernel
theorem dX4_least_81 : decode cX4_least 81 = .ok (.iconst 0, 1) := by decide +kernel
theorem dX4_least_82 : decode cX4_least 82 = .ok (.istore 5, 2) := by decide +kernel
theorem dX4_least_84 : decode cX4_least 84 = .ok (.iload 5, 2) := by decide +kernel
theorem dX4_least_86 : decode cX4_least 86 = .ok (.sipush 999, 3) := by decide +kernel
theorem dX4_least_89 : decode cX4_least 89 = .ok (.if_icmp .gt 62, 3) := by decide +kernel
theorem dX4_least_92 : decode cX4_least 92 = .ok (.iload 4, 2) := by decide +kernel
theorem dX4_least_94 : decode cX4_least 94 = .ok (.ifCond .ge 57, 3) := by decide +kernel
theorem dX4_least_97 : decode cX4_least 97 = .ok (.aload_n 0, 1) := by decide +kernel
theorem dX4_least_98 : decode cX4_least 98 = .ok (.iload_n 1, 1) := by decide +kernel
theorem dX4_least_99 : decode cX4_least 99 = .ok (.iload 5, 2) := by decide +kernel
theorem dX4_least_101 : decode cX4_least 101 = .ok (.invokevirtual 122, 3) := by decide +kernel
theorem dX4_least_104 : decode cX4_least 104 = .ok (.ifCond .eq 47, 3) := by decide +kernel
theorem dX4_least_107 : decode cX4_least 107 = .ok (.aload_n 0, 1) := by decide +kernel
theorem dX4_least_108 : decode cX4_least 108 = .ok (.iload_n 1, 1) := by decide +kernel
theorem dX4_least_109 : decode cX4_least 109 = .ok (.iload 5, 2) := by decide +kernel
theorem dX4_least_111 : decode cX4_least 111 = .ok (.invokevirtual 125, 3) := by decide +kernel
theorem dX4_least_114 : decode cX4_least 114 = .ok (.aload_n 0, 1) := by decide +kernel
theorem dX4_least_115 : decode cX4_least 115 = .ok (.iload_n 2, 1) := by decide +kernel
theorem dX4_least_116 : decode cX4_least 116 = .ok (.iconst 4, 1) := by decide +kernel
theorem dX4_least_117 : decode cX4_least 117 = .ok (.iload_n 3, 1) := by decide +kernel
theorem dX4_least_118 : decode cX4_least 118 = .ok (.iadd, 1) := by decide +kernel
theorem dX4_least_119 : decode cX4_least 119 = .ok (.invokevirtual 172, 3) := by decide +kernel
theorem dX4_least_122 : decode cX4_least 122 = .ok (.iconst (-1), 1) := by decide +kernel
theorem dX4_least_123 : decode cX4_least 123 = .ok (.if_icmp .ne 7, 3) := by decide +kernel
theorem dX4_least_126 : decode cX4_least 126 = .ok (.iconst (-1), 1) := by decide +kernel
theorem dX4_least_127 : decode cX4_least 127 = .ok (.goto 5, 3) := by decide +kernel
theorem dX4_least_130 : decode cX4_least 130 = .ok (.iload 5, 2) := by decide +kernel
theorem dX4_least_132 : decode cX4_least 132 = .ok (.istore 4, 2) := by decide +kernel
theorem dX4_least_134 : decode cX4_least 134 = .ok (.aload_n 0, 1) := by decide +kernel
theorem dX4_least_135 : decode cX4_least 135 = .ok (.getfield 19, 3) := by decide +kernel
theorem dX4_least_138 : decode cX4_least 138 = .ok (.aload_n 0, 1) := by decide +kernel
theorem dX4_least_139 : decode cX4_least 139 = .ok (.getfield 9, 3) := by decide +kernel
theorem dX4_least_142 : decode cX4_least 142 = .ok (.invokestatic 165, 3) := by decide +kernel
theorem dX4_least_145 : decode cX4_least 145 = .ok (.iinc 5 1, 3) := by decide +kernel
theorem dX4_least_148 : decode cX4_least 148 = .ok (.goto (-64), 3) := by decide +kernel
theorem dX4_least_151 : decode cX4_least 151 = .ok (.aload_n 0, 1) := by decide +kernel
theorem dX4_least_152 : decode cX4_least 152 = .ok (.iload 4, 2) := by decide +kernel
theorem dX4_least_154 : decode cX4_least 154 = .ok (.invokevirtual 151, 3) := by decide +kernel
theorem dX4_least_157 : decode cX4_least 157 = .ok (.ireturn, 1) := by decide +kernel
theorem dX4_best_0 : decode cX4_best 0 = .ok (.aload_n 0, 1) := by decide +kernel
theorem dX4_best_1 : decode cX4_best 1 = .ok (.iload_n 2, 1) := by decide +kernel
theorem dX4_best_2 : decode cX4_best 2 = .ok (.iconst 1, 1) := by decide +kernel
theorem dX4_best_3 : decode cX4_best 3 = .ok (.bipush 60, 2) := by decide +kernel
theorem dX4_best_5 : decode cX4_best 5 = .ok (.aload_n 0, 1) := by decide +kernel
theorem dX4_best_6 : decode cX4_best 6 = .ok (.iload_n 1, 1) := by decide +kernel
theorem dX4_best_7 : decode cX4_best 7 = .ok (.invokevirtual 101, 3) := by decide +kernel
theorem dX4_best_10 : decode cX4_best 10 = .ok (.invokevirtual 157, 3) := by decide +kernel
theorem dX4_best_13 : decode cX4_best 13 = .ok (.istore_n 3, 1) := by decide +kernel
theorem dX4_best_14 : decode cX4_best 14 = .ok (.iload_n 3, 1) := by decide +kernel
theorem dX4_best_15 : decode cX4_best 15 = .ok (.ifCond .ge 9, 3) := by decide +kernel
theorem dX4_best_18 : decode cX4_best 18 = .ok (.aload_n 0, 1) := by decide +kernel
theorem dX4_best_19 : decode cX4_best 19 = .ok (.iload_n 3, 1) := by decide +kernel
theorem dX4_best_20 : decode cX4_best 20 = .ok (.invokevirtual 39, 3) := by decide +kernel
theorem dX4_best_23 : decode cX4_best 23 = .ok (.ireturn, 1) := by decide +kernel
theorem dX4_best_24 : decode cX4_best 24 = .ok (.aload_n 0, 1) := by decide +kernel
theorem dX4_best_25 : decode cX4_best 25 = .ok (.getfield 9, 3) := by decide +kernel
theorem dX4_best_28 : decode cX4_best 28 = .ok (.iconst 1, 1) := by decide +kernel
theorem dX4_best_29 : decode cX4_best 29 = .ok (.iaload, 1) := by decide +kernel
theorem dX4_best_30 : decode cX4_best 30 = .ok (.istore 4, 2) := by decide +kernel
theorem dX4_best_32 : decode cX4_best 32 = .ok (.iconst 0, 1) := by decide +kernel
theorem dX4_best_33 : decode cX4_best 33 = .ok (.istore 5, 2) := by decide +kernel
theorem dX4_best_35 : decode cX4_best 35 = .ok (.bipush 9, 2) := by decide +kernel
theorem dX4_best_37 : decode cX4_best 37 = .ok (.istore 6, 2) := by decide +kernel
theorem dX4_best_39 : decode cX4_best 39 = .ok (.iconst 0, 1) := by decide +kernel
theorem dX4_best_40 : decode cX4_best 40 = .ok (.istore 7, 2) := by decide +kernel
theorem dX4_best_42 : decode cX4_best 42 = .ok (.iload 7, 2) := by decide +kernel
theorem dX4_best_44 : decode cX4_best 44 = .ok (.iconst 3, 1) := by decide +kernel
theorem dX4_best_45 : decode cX4_best 45 = .ok (.if_icmp .ge 74, 3) := by decide +kernel
theorem dX4_best_48 : decode cX4_best 48 = .ok (.aload_n 0, 1) := by decide +kernel
theorem dX4_best_49 : decode cX4_best 49 = .ok (.getfield 9, 3) := by decide +kernel
theorem dX4_best_52 : decode cX4_best 52 = .ok (.iconst 1, 1) := by decide +kernel
theorem dX4_best_53 : decode cX4_best 53 = .ok (.iload 7, 2) := by decide +kernel
theorem dX4_best_55 : decode cX4_best 55 = .ok (.iastore, 1) := by decide +kernel
theorem dX4_best_56 : decode cX4_best 56 = .ok (.aload_n 0, 1) := by decide +kernel
theorem dX4_best_57 : decode cX4_best 57 = .ok (.iload_n 2, 1) := by decide +kernel
theorem dX4_best_58 : decode cX4_best 58 = .ok (.iconst 4, 1) := by decide +kernel
theorem dX4_best_59 : decode cX4_best 59 = .ok (.iload_n 1, 1) := by decide +kernel
theorem dX4_best_60 : decode cX4_best 60 = .ok (.iadd, 1) := by decide +kernel
theorem dX4_best_61 : decode cX4_best 61 = .ok (.invokevirtual 172, 3) := by decide +kernel
theorem dX4_best_64 : decode cX4_best 64 = .ok (.istore 8, 2) := by decide +kernel
theorem dX4_best_66 : decode cX4_best 66 = .ok (.iload 8, 2) := by decide +kernel
theorem dX4_best_68 : decode cX4_best 68 = .ok (.iconst (-1), 1) := by decide +kernel
theorem dX4_best_69 : decode cX4_best 69 = .ok (.if_icmp .ne 8, 3) := by decide +kernel
theorem dX4_best_72 : decode cX4_best 72 = .ok (.bipush 8, 2) := by decide +kernel
theorem dX4_best_74 : decode cX4_best 74 = .ok (.goto 5, 3) := by decide +kernel
theorem dX4_best_77 : decode cX4_best 77 = .ok (.iload 8, 2) := by decide +kernel
theorem dX4_best_79 : decode cX4_best 79 = .ok (.istore 9, 2) := by decide +kernel
theorem dX4_best_81 : decode cX4_best 81 = .ok (.iload 9, 2) := by decide +kernel
theorem dX4_best_83 : decode cX4_best 83 = .ok (.iload 6, 2) := by decide +kernel
theorem dX4_best_85 : decode cX4_best 85 = .ok (.if_icmp .ge 8, 3) := by decide +kernel
theorem dX4_best_88 : decode cX4_best 88 = .ok (.iload 7, 2) := by decide +kernel
theorem dX4_best_90 : decode cX4_best 90 = .ok (.goto 5, 3) := by decide +kernel
theorem dX4_best_93 : decode cX4_best 93 = .ok (.iload 5, 2) := by decide +kernel
theorem dX4_best_95 : decode cX4_best 95 = .ok (.istore 5, 2) := by decide +kernel
theorem dX4_best_97 : decode cX4_best 97 = .ok (.iload 9, 2) := by decide +kernel
theorem dX4_best_99 : decode cX4_best 99 = .ok (.iload 6, 2) := by decide +kernel
theorem dX4_best_101 : decode cX4_best 101 = .ok (.if_icmp .ge 8, 3) := by decide +kernel
theorem dX4_best_104 : decode cX4_best 104 = .ok (.iload 9, 2) := by decide +kernel
theorem dX4_best_106 : decode cX4_best 106 = .ok (.goto 5, 3) := by decide +kernel
theorem dX4_best_109 : decode cX4_best 109 = .ok (.iload 6, 2) := by decide +kernel
theorem dX4_best_111 : decode cX4_best 111 = .ok (.istore 6, 2) := by decide +kernel
theorem dX4_best_113 : decode cX4_best 113 = .ok (.iinc 7 1, 3) := by decide +kernel
theorem dX4_best_116 : decode cX4_best 116 = .ok (.goto (-74), 3) := by decide +kernel
theorem dX4_best_119 : decode cX4_best 119 = .ok (.aload_n 0, 1) := by decide +kernel
theorem dX4_best_120 : decode cX4_best 120 = .ok (.getfield 9, 3) := by decide +kernel
theorem dX4_best_123 : decode cX4_best 123 = .ok (.iconst 1, 1) := by decide +kernel
theorem dX4_best_124 : decode cX4_best 124 = .ok (.iload 4, 2) := by decide +kernel
theorem dX4_best_126 : decode cX4_best 126 = .ok (.iastore, 1) := by decide +kernel
theorem dX4_best_127 : decode cX4_best 127 = .ok (.iload 5, 2) := by decide +kernel
theorem dX4_best_129 : decode cX4_best 129 = .ok (.ireturn, 1) := by decide +kernel
theorem dX4_partsFor_0 : decode cX4_partsFor 0 = .ok (.aload_n 0, 1) := by decide +kernel
theorem dX4_partsFor_1 : decode cX4_partsFor 1 = .ok (.iload_n 1, 1) := by decide +kernel
theorem dX4_partsFor_2 : decode cX4_partsFor 2 = .ok (.iconst 1, 1) := by decide +kernel
theorem dX4_partsFor_3 : decode cX4_partsFor 3 = .ok (.bipush 60, 2) := by decide +kernel
theorem dX4_partsFor_5 : decode cX4_partsFor 5 = .ok (.iconst 1, 1) := by decide +kernel
theorem dX4_partsFor_6 : decode cX4_partsFor 6 = .ok (.invokevirtual 157, 3) := by decide +kernel
theorem dX4_partsFor_9 : decode cX4_partsFor 9 = .ok (.istore_n 2, 1) := by decide +kernel
theorem dX4_partsFor_10 : decode cX4_partsFor 10 = .ok (.iload_n 2, 1) := by decide +kernel
theorem dX4_partsFor_11 : decode cX4_partsFor 11 = .ok (.ifCond .ge 9, 3) := by decide +kernel
theorem dX4_partsFor_14 : decode cX4_partsFor 14 = .ok (.aload_n 0, 1) := by decide +kernel
theorem dX4_partsFor_15 : decode cX4_partsFor 15 = .ok (.iload_n 2, 1) := by decide +kernel
theorem dX4_partsFor_16 : decode cX4_partsFor 16 = .ok (.invokevirtual 39, 3) := by decide +kernel
theorem dX4_partsFor_19 : decode cX4_partsFor 19 = .ok (.ireturn, 1) := by decide +kernel
theorem dX4_partsFor_20 : decode cX4_partsFor 20 = .ok (.aload_n 0, 1) := by decide +kernel
theorem dX4_partsFor_21 : decode cX4_partsFor 21 = .ok (.getfield 9, 3) := by decide +kernel
theorem dX4_partsFor_24 : decode cX4_partsFor 24 = .ok (.iconst 2, 1) := by decide +kernel
theorem dX4_partsFor_25 : decode cX4_partsFor 25 = .ok (.iaload, 1) := by decide +kernel
theorem dX4_partsFor_26 : decode cX4_partsFor 26 = .ok (.istore_n 3, 1) := by decide +kernel
theorem dX4_partsFor_27 : decode cX4_partsFor 27 = .ok (.iconst 0, 1) := by decide +kernel
theorem dX4_partsFor_28 : decode cX4_partsFor 28 = .ok (.istore 4, 2) := by decide +kernel
theorem dX4_partsFor_30 : decode cX4_partsFor 30 = .ok (.iconst 0, 1) := by decide +kernel
theorem dX4_partsFor_31 : decode cX4_partsFor 31 = .ok (.istore 5, 2) := by decide +kernel
theorem dX4_partsFor_33 : decode cX4_partsFor 33 = .ok (.iconst 1, 1) := by decide +kernel
theorem dX4_partsFor_34 : decode cX4_partsFor 34 = .ok (.istore 6, 2) := by decide +kernel
theorem dX4_partsFor_36 : decode cX4_partsFor 36 = .ok (.iload 6, 2) := by decide +kernel
theorem dX4_partsFor_38 : decode cX4_partsFor 38 = .ok (.iconst 5, 1) := by decide +kernel
theorem dX4_partsFor_39 : decode cX4_partsFor 39 = .ok (.if_icmp .gt 48, 3) := by decide +kernel
theorem dX4_partsFor_42 : decode cX4_partsFor 42 = .ok (.aload_n 0, 1) := by decide +kernel
theorem dX4_partsFor_43 : decode cX4_partsFor 43 = .ok (.getfield 9, 3) := by decide +kernel
theorem dX4_partsFor_46 : decode cX4_partsFor 46 = .ok (.iconst 2, 1) := by decide +kernel
theorem dX4_partsFor_47 : decode cX4_partsFor 47 = .ok (.iload 6, 2) := by decide +kernel
theorem dX4_partsFor_49 : decode cX4_partsFor 49 = .ok (.iastore, 1) := by decide +kernel
theorem dX4_partsFor_50 : decode cX4_partsFor 50 = .ok (.aload_n 0, 1) := by decide +kernel
theorem dX4_partsFor_51 : decode cX4_partsFor 51 = .ok (.iload_n 1, 1) := by decide +kernel
theorem dX4_partsFor_52 : decode cX4_partsFor 52 = .ok (.iconst 1, 1) := by decide +kernel
theorem dX4_partsFor_53 : decode cX4_partsFor 53 = .ok (.invokevirtual 172, 3) := by decide +kernel
theorem dX4_partsFor_56 : decode cX4_partsFor 56 = .ok (.istore 7, 2) := by decide +kernel
theorem dX4_partsFor_58 : decode cX4_partsFor 58 = .ok (.iload 4, 2) := by decide +kernel
theorem dX4_partsFor_60 : decode cX4_partsFor 60 = .ok (.ifCond .le 13, 3) := by decide +kernel
theorem dX4_partsFor_63 : decode cX4_partsFor 63 = .ok (.iload 7, 2) := by decide +kernel
theorem dX4_partsFor_65 : decode cX4_partsFor 65 = .ok (.iload 5, 2) := by decide +kernel
theorem dX4_partsFor_67 : decode cX4_partsFor 67 = .ok (.if_icmp .lt 6, 3) := by decide +kernel
theorem dX4_partsFor_70 : decode cX4_partsFor 70 = .ok (.goto 11, 3) := by decide +kernel
theorem dX4_partsFor_73 : decode cX4_partsFor 73 = .ok (.iload 6, 2) := by decide +kernel
theorem dX4_partsFor_75 : decode cX4_partsFor 75 = .ok (.istore 4, 2) := by decide +kernel
theorem dX4_partsFor_77 : decode cX4_partsFor 77 = .ok (.iload 7, 2) := by decide +kernel
theorem dX4_partsFor_79 : decode cX4_partsFor 79 = .ok (.istore 5, 2) := by decide +kernel
theorem dX4_partsFor_81 : decode cX4_partsFor 81 = .ok (.iinc 6 1, 3) := by decide +kernel
theorem dX4_partsFor_84 : decode cX4_partsFor 84 = .ok (.goto (-48), 3) := by decide +kernel
theorem dX4_partsFor_87 : decode cX4_partsFor 87 = .ok (.aload_n 0, 1) := by decide +kernel
theorem dX4_partsFor_88 : decode cX4_partsFor 88 = .ok (.getfield 9, 3) := by decide +kernel
theorem dX4_partsFor_91 : decode cX4_partsFor 91 = .ok (.iconst 2, 1) := by decide +kernel
theorem dX4_partsFor_92 : decode cX4_partsFor 92 = .ok (.iload_n 3, 1) := by decide +kernel
theorem dX4_partsFor_93 : decode cX4_partsFor 93 = .ok (.iastore, 1) := by decide +kernel
theorem dX4_partsFor_94 : decode cX4_partsFor 94 = .ok (.iload 4, 2) := by decide +kernel
theorem dX4_partsFor_96 : decode cX4_partsFor 96 = .ok (.ireturn, 1) := by decide +kernel
theorem dX4_kindFor_0 : decode cX4_kindFor 0 = .ok (.aload_n 0, 1) := by decide +kernel
theorem dX4_kindFor_1 : decode cX4_kindFor 1 = .ok (.iload_n 2, 1) := by decide +kernel
theorem dX4_kindFor_2 : decode cX4_kindFor 2 = .ok (.iconst 1, 1) := by decide +kernel
theorem dX4_kindFor_3 : decode cX4_kindFor 3 = .ok (.bipush 60, 2) := by decide +kernel
theorem dX4_kindFor_5 : decode cX4_kindFor 5 = .ok (.aload_n 0, 1) := by decide +kernel
theorem dX4_kindFor_6 : decode cX4_kindFor 6 = .ok (.iload_n 1, 1) := by decide +kernel
theorem dX4_kindFor_7 : decode cX4_kindFor 7 = .ok (.invokevirtual 101, 3) := by decide +kernel
theorem dX4_kindFor_10 : decode cX4_kindFor 10 = .ok (.invokevirtual 157, 3) := by decide +kernel
theorem dX4_kindFor_13 : decode cX4_kindFor 13 = .ok (.istore_n 3, 1) := by decide +kernel
theorem dX4_kindFor_14 : decode cX4_kindFor 14 = .ok (.iload_n 3, 1) := by decide +kernel
theorem dX4_kindFor_15 : decode cX4_kindFor 15 = .ok (.ifCond .ge 9, 3) := by decide +kernel
theorem dX4_kindFor_18 : decode cX4_kindFor 18 = .ok (.aload_n 0, 1) := by decide +kernel
theorem dX4_kindFor_19 : decode cX4_kindFor 19 = .ok (.iload_n 3, 1) := by decide +kernel
theorem dX4_kindFor_20 : decode cX4_kindFor 20 = .ok (.invokevirtual 39, 3) := by decide +kernel
theorem dX4_kindFor_23 : decode cX4_kindFor 23 = .ok (.ireturn, 1) := by decide +kernel
theorem dX4_kindFor_24 : decode cX4_kindFor 24 = .ok (.aload_n 0, 1) := by decide +kernel
theorem dX4_kindFor_25 : decode cX4_kindFor 25 = .ok (.iload_n 1, 1) := by decide +kernel
theorem dX4_kindFor_26 : decode cX4_kindFor 26 = .ok (.iconst 0, 1) := by decide +kernel
theorem dX4_kindFor_27 : decode cX4_kindFor 27 = .ok (.invokevirtual 51, 3) := by decide +kernel
theorem dX4_kindFor_30 : decode cX4_kindFor 30 = .ok (.istore 4, 2) := by decide +kernel
theorem dX4_kindFor_32 : decode cX4_kindFor 32 = .ok (.iconst 0, 1) := by decide +kernel
theorem dX4_kindFor_33 : decode cX4_kindFor 33 = .ok (.istore 5, 2) := by decide +kernel
theorem dX4_kindFor_35 : decode cX4_kindFor 35 = .ok (.iconst (-1), 1) := by decide +kernel
theorem dX4_kindFor_36 : decode cX4_kindFor 36 = .ok (.istore 6, 2) := by decide +kernel
theorem dX4_kindFor_38 : decode cX4_kindFor 38 = .ok (.iconst 0, 1) := by decide +kernel
theorem dX4_kindFor_39 : decode cX4_kindFor 39 = .ok (.istore 7, 2) := by decide +kernel
theorem dX4_kindFor_41 : decode cX4_kindFor 41 = .ok (.iload 7, 2) := by decide +kernel
theorem dX4_kindFor_43 : decode cX4_kindFor 43 = .ok (.bipush 6, 2) := by decide +kernel
theorem dX4_kindFor_45 : decode cX4_kindFor 45 = .ok (.if_icmp .gt 57, 3) := by decide +kernel
theorem dX4_kindFor_48 : decode cX4_kindFor 48 = .ok (.aload_n 0, 1) := by decide +kernel
theorem dX4_kindFor_49 : decode cX4_kindFor 49 = .ok (.iload_n 1, 1) := by decide +kernel
theorem dX4_kindFor_50 : decode cX4_kindFor 50 = .ok (.iconst 0, 1) := by decide +kernel
theorem dX4_kindFor_51 : decode cX4_kindFor 51 = .ok (.iload 7, 2) := by decide +kernel
theorem dX4_kindFor_53 : decode cX4_kindFor 53 = .ok (.invokevirtual 87, 3) := by decide +kernel
theorem dX4_kindFor_56 : decode cX4_kindFor 56 = .ok (.aload_n 0, 1) := by decide +kernel
theorem dX4_kindFor_57 : decode cX4_kindFor 57 = .ok (.iload_n 1, 1) := by decide +kernel
theorem dX4_kindFor_58 : decode cX4_kindFor 58 = .ok (.iload_n 2, 1) := by decide +kernel
theorem dX4_kindFor_59 : decode cX4_kindFor 59 = .ok (.invokevirtual 175, 3) := by decide +kernel
theorem dX4_kindFor_62 : decode cX4_kindFor 62 = .ok (.istore 8, 2) := by decide +kernel
theorem dX4_kindFor_64 : decode cX4_kindFor 64 = .ok (.iload 8, 2) := by decide +kernel
theorem dX4_kindFor_66 : decode cX4_kindFor 66 = .ok (.iload 6, 2) := by decide +kernel
theorem dX4_kindFor_68 : decode cX4_kindFor 68 = .ok (.if_icmp .le 8, 3) := by decide +kernel
theorem dX4_kindFor_71 : decode cX4_kindFor 71 = .ok (.iload 7, 2) := by decide +kernel
theorem dX4_kindFor_73 : decode cX4_kindFor 73 = .ok (.goto 5, 3) := by decide +kernel
theorem dX4_kindFor_76 : decode cX4_kindFor 76 = .ok (.iload 5, 2) := by decide +kernel
theorem dX4_kindFor_78 : decode cX4_kindFor 78 = .ok (.istore 5, 2) := by decide +kernel
theorem dX4_kindFor_80 : decode cX4_kindFor 80 = .ok (.iload 8, 2) := by decide +kernel
theorem dX4_kindFor_82 : decode cX4_kindFor 82 = .ok (.iload 6, 2) := by decide +kernel
theorem dX4_kindFor_84 : decode cX4_kindFor 84 = .ok (.if_icmp .le 8, 3) := by decide +kernel
theorem dX4_kindFor_87 : decode cX4_kindFor 87 = .ok (.iload 8, 2) := by decide +kernel
theorem dX4_kindFor_89 : decode cX4_kindFor 89 = .ok (.goto 5, 3) := by decide +kernel
theorem dX4_kindFor_92 : decode cX4_kindFor 92 = .ok (.iload 6, 2) := by decide +kernel
theorem dX4_kindFor_94 : decode cX4_kindFor 94 = .ok (.istore 6, 2) := by decide +kernel
theorem dX4_kindFor_96 : decode cX4_kindFor 96 = .ok (.iinc 7 1, 3) := by decide +kernel
theorem dX4_kindFor_99 : decode cX4_kindFor 99 = .ok (.goto (-58), 3) := by decide +kernel
theorem dX4_kindFor_102 : decode cX4_kindFor 102 = .ok (.aload_n 0, 1) := by decide +kernel
theorem dX4_kindFor_103 : decode cX4_kindFor 103 = .ok (.iload_n 1, 1) := by decide +kernel
theorem dX4_kindFor_104 : decode cX4_kindFor 104 = .ok (.iconst 0, 1) := by decide +kernel
theorem dX4_kindFor_105 : decode cX4_kindFor 105 = .ok (.iload 4, 2) := by decide +kernel
theorem dX4_kindFor_107 : decode cX4_kindFor 107 = .ok (.invokevirtual 87, 3) := by decide +kernel
theorem dX4_kindFor_110 : decode cX4_kindFor 110 = .ok (.iload 5, 2) := by decide +kernel
theorem dX4_kindFor_112 : decode cX4_kindFor 112 = .ok (.ireturn, 1) := by decide +kernel
theorem dX4_mayPlot_0 : decode cX4_mayPlot 0 = .ok (.aload_n 0, 1) := by decide +kernel
theorem dX4_mayPlot_1 : decode cX4_mayPlot 1 = .ok (.iload_n 1, 1) := by decide +kernel
theorem dX4_mayPlot_2 : decode cX4_mayPlot 2 = .ok (.iconst 0, 1) := by decide +kernel
theorem dX4_mayPlot_3 : decode cX4_mayPlot 3 = .ok (.invokevirtual 51, 3) := by decide +kernel
theorem dX4_mayPlot_6 : decode cX4_mayPlot 6 = .ok (.istore_n 2, 1) := by decide +kernel
theorem dX4_mayPlot_7 : decode cX4_mayPlot 7 = .ok (.iload_n 2, 1) := by decide +kernel
theorem dX4_mayPlot_8 : decode cX4_mayPlot 8 = .ok (.ifCond .eq 18, 3) := by decide +kernel
theorem dX4_mayPlot_11 : decode cX4_mayPlot 11 = .ok (.iload_n 2, 1) := by decide +kernel
theorem dX4_mayPlot_12 : decode cX4_mayPlot 12 = .ok (.iconst 2, 1) := by decide +kernel
theorem dX4_mayPlot_13 : decode cX4_mayPlot 13 = .ok (.if_icmp .eq 13, 3) := by decide +kernel
theorem dX4_mayPlot_16 : decode cX4_mayPlot 16 = .ok (.iload_n 2, 1) := by decide +kernel
theorem dX4_mayPlot_17 : decode cX4_mayPlot 17 = .ok (.iconst 3, 1) := by decide +kernel
theorem dX4_mayPlot_18 : decode cX4_mayPlot 18 = .ok (.if_icmp .eq 8, 3) := by decide +kernel
theorem dX4_mayPlot_21 : decode cX4_mayPlot 21 = .ok (.iload_n 2, 1) := by decide +kernel
theorem dX4_mayPlot_22 : decode cX4_mayPlot 22 = .ok (.iconst 5, 1) := by decide +kernel
theorem dX4_mayPlot_23 : decode cX4_mayPlot 23 = .ok (.if_icmp .ne 7, 3) := by decide +kernel
theorem dX4_mayPlot_26 : decode cX4_mayPlot 26 = .ok (.iconst 1, 1) := by decide +kernel
theorem dX4_mayPlot_27 : decode cX4_mayPlot 27 = .ok (.goto 4, 3) := by decide +kernel
theorem dX4_mayPlot_30 : decode cX4_mayPlot 30 = .ok (.iconst 0, 1) := by decide +kernel
theorem dX4_mayPlot_31 : decode cX4_mayPlot 31 = .ok (.ireturn, 1) := by decide +kernel
theorem dX4_plot_0 : decode cX4_plot 0 = .ok (.aload_n 0, 1) := by decide +kernel
theorem dX4_plot_1 : decode cX4_plot 1 = .ok (.iload_n 1, 1) := by decide +kernel
theorem dX4_plot_2 : decode cX4_plot 2 = .ok (.invokevirtual 101, 3) := by decide +kernel
theorem dX4_plot_5 : decode cX4_plot 5 = .ok (.ifCond .eq 15, 3) := by decide +kernel
theorem dX4_plot_8 : decode cX4_plot 8 = .ok (.iload_n 2, 1) := by decide +kernel
theorem dX4_plot_9 : decode cX4_plot 9 = .ok (.i2l, 1) := by decide +kernel
theorem dX4_plot_10 : decode cX4_plot 10 = .ok (.lconst 1, 1) := by decide +kernel
theorem dX4_plot_11 : decode cX4_plot 11 = .ok (.ldc2_w 180, 3) := by decide +kernel
theorem dX4_plot_14 : decode cX4_plot 14 = .ok (.invokestatic 45, 3) := by decide +kernel
theorem dX4_plot_17 : decode cX4_plot 17 = .ok (.ifCond .ne 10, 3) := by decide +kernel
theorem dX4_plot_20 : decode cX4_plot 20 = .ok (.aload_n 0, 1) := by decide +kernel
theorem dX4_plot_21 : decode cX4_plot 21 = .ok (.ldc 37, 2) := by decide +kernel
theorem dX4_plot_23 : decode cX4_plot 23 = .ok (.invokevirtual 39, 3) := by decide +kernel
theorem dX4_plot_26 : decode cX4_plot 26 = .ok (.ireturn, 1) := by decide +kernel
theorem dX4_plot_27 : decode cX4_plot 27 = .ok (.aload_n 0, 1) := by decide +kernel
theorem dX4_plot_28 : decode cX4_plot 28 = .ok (.iload_n 1, 1) := by decide +kernel
theorem dX4_plot_29 : decode cX4_plot 29 = .ok (.invokevirtual 119, 3) := by decide +kernel
theorem dX4_plot_32 : decode cX4_plot 32 = .ok (.ifCond .ne 17, 3) := by decide +kernel
theorem dX4_plot_35 : decode cX4_plot 35 = .ok (.aload_n 0, 1) := by decide +kernel
theorem dX4_plot_36 : decode cX4_plot 36 = .ok (.getfield 9, 3) := by decide +kernel
theorem dX4_plot_39 : decode cX4_plot 39 = .ok (.iconst 0, 1) := by decide +kernel
theorem dX4_plot_40 : decode cX4_plot 40 = .ok (.iaload, 1) := by decide +kernel
theorem dX4_plot_41 : decode cX4_plot 41 = .ok (.iload_n 2, 1) := by decide +kernel
theorem dX4_plot_42 : decode cX4_plot 42 = .ok (.iadd, 1) := by decide +kernel
theorem dX4_plot_43 : decode cX4_plot 43 = .ok (.sipush 999, 3) := by decide +kernel
theorem dX4_plot_46 : decode cX4_plot 46 = .ok (.if_icmp .le 10, 3) := by decide +kernel
theorem dX4_plot_49 : decode cX4_plot 49 = .ok (.aload_n 0, 1) := by decide +kernel
theorem dX4_plot_50 : decode cX4_plot 50 = .ok (.ldc 67, 2) := by decide +kernel
theorem dX4_plot_52 : decode cX4_plot 52 = .ok (.invokevirtual 39, 3) := by decide +kernel
theorem dX4_plot_55 : decode cX4_plot 55 = .ok (.ireturn, 1) := by decide +kernel
theorem dX4_plot_56 : decode cX4_plot 56 = .ok (.iconst 0, 1) := by decide +kernel
theorem dX4_plot_57 : decode cX4_plot 57 = .ok (.istore_n 3, 1) := by decide +kernel
theorem dX4_plot_58 : decode cX4_plot 58 = .ok (.iconst 0, 1) := by decide +kernel
theorem dX4_plot_59 : decode cX4_plot 59 = .ok (.istore 4, 2) := by decide +kernel
theorem dX4_plot_61 : decode cX4_plot 61 = .ok (.iload 4, 2) := by decide +kernel
theorem dX4_plot_63 : decode cX4_plot 63 = .ok (.aload_n 0, 1) := by decide +kernel
theorem dX4_plot_64 : decode cX4_plot 64 = .ok (.getfield 9, 3) := by decide +kernel
theorem dX4_plot_67 : decode cX4_plot 67 = .ok (.bipush 6, 2) := by decide +kernel
theorem dX4_plot_69 : decode cX4_plot 69 = .ok (.iaload, 1) := by decide +kernel
theorem dX4_plot_70 : decode cX4_plot 70 = .ok (.if_icmp .ge 44, 3) := by decide +kernel
theorem dX4_plot_73 : decode cX4_plot 73 = .ok (.iload_n 3, 1) := by decide +kernel
theorem dX4_plot_74 : decode cX4_plot 74 = .ok (.iload 4, 2) := by decide +kernel
theorem dX4_plot_76 : decode cX4_plot 76 = .ok (.iload_n 1, 1) := by decide +kernel
theorem dX4_plot_77 : decode cX4_plot 77 = .ok (.if_icmp .eq 28, 3) := by decide +kernel
theorem dX4_plot_80 : decode cX4_plot 80 = .ok (.aload_n 0, 1) := by decide +kernel
theorem dX4_plot_81 : decode cX4_plot 81 = .ok (.iload 4, 2) := by decide +kernel
theorem dX4_plot_83 : decode cX4_plot 83 = .ok (.invokevirtual 119, 3) := by decide +kernel
theorem dX4_plot_86 : decode cX4_plot 86 = .ok (.ifCond .ne 19, 3) := by decide +kernel
theorem dX4_plot_89 : decode cX4_plot 89 = .ok (.aload_n 0, 1) := by decide +kernel
theorem dX4_plot_90 : decode cX4_plot 90 = .ok (.iload 4, 2) := by decide +kernel
theorem dX4_plot_92 : decode cX4_plot 92 = .ok (.invokevirtual 182, 3) := by decide +kernel
theorem dX4_plot_95 : decode cX4_plot 95 = .ok (.ifCond .eq 10, 3) := by decide +kernel
theorem dX4_plot_98 : decode cX4_plot 98 = .ok (.iconst 1, 1) := by decide +kernel
theorem dX4_plot_99 : decode cX4_plot 99 = .ok (.iload 4, 2) := by decide +kernel
theorem dX4_plot_101 : decode cX4_plot 101 = .ok (.ishl, 1) := by decide +kernel
theorem dX4_plot_102 : decode cX4_plot 102 = .ok (.goto 4, 3) := by decide +kernel
theorem dX4_plot_105 : decode cX4_plot 105 = .ok (.iconst 0, 1) := by decide +kernel
theorem dX4_plot_106 : decode cX4_plot 106 = .ok (.ior, 1) := by decide +kernel
theorem dX4_plot_107 : decode cX4_plot 107 = .ok (.istore_n 3, 1) := by decide +kernel
theorem dX4_plot_108 : decode cX4_plot 108 = .ok (.iinc 4 1, 3) := by decide +kernel
theorem dX4_plot_111 : decode cX4_plot 111 = .ok (.goto (-50), 3) := by decide +kernel
theorem dX4_plot_114 : decode cX4_plot 114 = .ok (.iload_n 3, 1) := by decide +kernel
theorem dX4_plot_115 : decode cX4_plot 115 = .ok (.invokestatic 58, 3) := by decide +kernel
theorem dX4_plot_118 : decode cX4_plot 118 = .ok (.bipush 10, 2) := by decide +kernel
theorem dX4_plot_120 : decode cX4_plot 120 = .ok (.if_icmp .le 10, 3) := by decide +kernel
theorem dX4_plot_123 : decode cX4_plot 123 = .ok (.aload_n 0, 1) := by decide +kernel
theorem dX4_plot_124 : decode cX4_plot 124 = .ok (.ldc 185, 2) := by decide +kernel
theorem dX4_plot_126 : decode cX4_plot 126 = .ok (.invokevirtual 39, 3) := by decide +kernel
theorem dX4_plot_129 : decode cX4_plot 129 = .ok (.ireturn, 1) := by decide +kernel
theorem dX4_plot_130 : decode cX4_plot 130 = .ok (.aload_n 0, 1) := by decide +kernel
theorem dX4_plot_131 : decode cX4_plot 131 = .ok (.getfield 9, 3) := by decide +kernel
theorem dX4_plot_134 : decode cX4_plot 134 = .ok (.aload_n 0, 1) := by decide +kernel
theorem dX4_plot_135 : decode cX4_plot 135 = .ok (.getfield 19, 3) := by decide +kernel
theorem dX4_plot_138 : decode cX4_plot 138 = .ok (.invokestatic 165, 3) := by decide +kernel
theorem dX4_plot_141 : decode cX4_plot 141 = .ok (.iconst (-1), 1) := by decide +kernel
theorem dX4_plot_142 : decode cX4_plot 142 = .ok (.istore 4, 2) := by decide +kernel
theorem dX4_plot_144 : decode cX4_plot 144 = .ok (.iconst 0, 1) := by decide +kernel
theorem dX4_plot_145 : decode cX4_plot 145 = .ok (.istore 5, 2) := by decide +kernel
theorem dX4_plot_147 : decode cX4_plot 147 = .ok (.iload 5, 2) := by decide +kernel
theorem dX4_plot_149 : decode cX4_plot 149 = .ok (.aload_n 0, 1) := by decide +kernel
theorem dX4_plot_150 : decode cX4_plot 150 = .ok (.invokevirtual 169, 3) := by decide +kernel
theorem dX4_plot_153 : decode cX4_plot 153 = .ok (.if_icmp .gt 110, 3) := by decide +kernel
theorem dX4_plot_156 : decode cX4_plot 156 = .ok (.iload 5, 2) := by decide +kernel
theorem dX4_plot_158 : decode cX4_plot 158 = .ok (.iload_n 3, 1) := by decide +kernel
theorem dX4_plot_159 : decode cX4_plot 159 = .ok (.iconst (-1), 1) := by decide +kernel
theorem dX4_plot_160 : decode cX4_plot 160 = .ok (.ixor, 1) := by decide +kernel
theorem dX4_plot_161 : decode cX4_plot 161 = .ok (.iand, 1) := by decide +kernel
theorem dX4_plot_162 : decode cX4_plot 162 = .ok (.ifCond .ne 95, 3) := by decide +kernel
theorem dX4_plot_165 : decode cX4_plot 165 = .ok (.iload 4, 2) := by decide +kernel
theorem dX4_plot_167 : decode cX4_plot 167 = .ok (.ifCond .lt 19, 3) := by decide +kernel
theorem dX4_plot_170 : decode cX4_plot 170 = .ok (.iload 5, 2) := by decide +kernel
theorem dX4_plot_172 : decode cX4_plot 172 = .ok (.invokestatic 58, 3) := by decide +kernel
theorem dX4_plot_175 : decode cX4_plot 175 = .ok (.iload 4, 2) := by decide +kernel
theorem dX4_plot_177 : decode cX4_plot 177 = .ok (.invokestatic 58, 3) := by decide +kernel
theorem dX4_plot_180 : decode cX4_plot 180 = .ok (.if_icmp .lt 6, 3) := by decide +kernel
theorem dX4_plot_183 : decode cX4_plot 183 = .ok (.goto 74, 3) := by decide +kernel
theorem dX4_plot_186 : decode cX4_plot 186 = .ok (.iconst 0, 1) := by decide +kernel
theorem dX4_plot_187 : decode cX4_plot 187 = .ok (.istore 6, 2) := by decide +kernel
theorem dX4_plot_189 : decode cX4_plot 189 = .ok (.iload 6, 2) := by decide +kernel
theorem dX4_plot_191 : decode cX4_plot 191 = .ok (.aload_n 0, 1) := by decide +kernel
theorem dX4_plot_192 : decode cX4_plot 192 = .ok (.getfield 9, 3) := by decide +kernel
theorem dX4_plot_195 : decode cX4_plot 195 = .ok (.bipush 6, 2) := by decide +kernel
theorem dX4_plot_197 : decode cX4_plot 197 = .ok (.iaload, 1) := by decide +kernel
theorem dX4_plot_198 : decode cX4_plot 198 = .ok (.if_icmp .ge 27, 3) := by decide +kernel
theorem dX4_plot_201 : decode cX4_plot 201 = .ok (.iload 5, 2) := by decide +kernel
theorem dX4_plot_203 : decode cX4_plot 203 = .ok (.iload 6, 2) := by decide +kernel
theorem dX4_plot_205 : decode cX4_plot 205 = .ok (.invokestatic 71, 3) := by decide +kernel
theorem dX4_plot_208 : decode cX4_plot 208 = .ok (.ifCond .eq 11, 3) := by decide +kernel
theorem dX4_plot_211 : decode cX4_plot 211 = .ok (.aload_n 0, 1) := by decide +kernel
theorem dX4_plot_212 : decode cX4_plot 212 = .ok (.iload 6, 2) := by decide +kernel
theorem dX4_plot_214 : decode cX4_plot 214 = .ok (.iload_n 1, 1) := by decide +kernel
theorem dX4_plot_215 : decode cX4_plot 215 = .ok (.invokevirtual 116, 3) := by decide +kernel
theorem dX4_plot_218 : decode cX4_plot 218 = .ok (.pop, 1) := by decide +kernel
theorem dX4_plot_219 : decode cX4_plot 219 = .ok (.iinc 6 1, 3) := by decide +kernel
theorem dX4_plot_222 : decode cX4_plot 222 = .ok (.goto (-33), 3) := by decide +kernel
theorem dX4_plot_225 : decode cX4_plot 225 = .ok (.aload_n 0, 1) := by decide +kernel
theorem dX4_plot_226 : decode cX4_plot 226 = .ok (.iload_n 2, 1) := by decide +kernel
theorem dX4_plot_227 : decode cX4_plot 227 = .ok (.iconst 4, 1) := by decide +kernel
theorem dX4_plot_228 : decode cX4_plot 228 = .ok (.iload_n 1, 1) := by decide +kernel
theorem dX4_plot_229 : decode cX4_plot 229 = .ok (.iadd, 1) := by decide +kernel
theorem dX4_plot_230 : decode cX4_plot 230 = .ok (.invokevirtual 172, 3) := by decide +kernel
theorem dX4_plot_233 : decode cX4_plot 233 = .ok (.iconst (-1), 1) := by decide +kernel
theorem dX4_plot_234 : decode cX4_plot 234 = .ok (.if_icmp .ne 8, 3) := by decide +kernel
theorem dX4_plot_237 : decode cX4_plot 237 = .ok (.iload 5, 2) := by decide +kernel
theorem dX4_plot_239 : decode cX4_plot 239 = .ok (.goto 5, 3) := by decide +kernel
theorem dX4_plot_242 : decode cX4_plot 242 = .ok (.iload 4, 2) := by decide +kernel
theorem dX4_plot_244 : decode cX4_plot 244 = .ok (.istore 4, 2) := by decide +kernel
theorem dX4_plot_246 : decode cX4_plot 246 = .ok (.aload_n 0, 1) := by decide +kernel
theorem dX4_plot_247 : decode cX4_plot 247 = .ok (.getfield 19, 3) := by decide +kernel
theorem dX4_plot_250 : decode cX4_plot 250 = .ok (.aload_n 0, 1) := by decide +kernel
theorem dX4_plot_251 : decode cX4_plot 251 = .ok (.getfield 9, 3) := by decide +kernel
theorem dX4_plot_254 : decode cX4_plot 254 = .ok (.invokestatic 165, 3) := by decide +kernel
theorem dX4_plot_257 : decode cX4_plot 257 = .ok (.iinc 5 1, 3) := by decide +kernel
theorem dX4_plot_260 : decode cX4_plot 260 = .ok (.goto (-113), 3) := by decide +kernel
theorem dX4_plot_263 : decode cX4_plot 263 = .ok (.aload_n 0, 1) := by decide +kernel
theorem dX4_plot_264 : decode cX4_plot 264 = .ok (.iload 4, 2) := by decide +kernel
theorem dX4_plot_266 : decode cX4_plot 266 = .ok (.invokevirtual 151, 3) := by decide +kernel
theorem dX4_plot_269 : decode cX4_plot 269 = .ok (.ireturn, 1) := by decide +kernel
theorem dX4_undo_0 : decode cX4_undo 0 = .ok (.aload_n 0, 1) := by decide +kernel
theorem dX4_undo_1 : decode cX4_undo 1 = .ok (.iload_n 1, 1) := by decide +kernel
theorem dX4_undo_2 : decode cX4_undo 2 = .ok (.invokevirtual 101, 3) := by decide +kernel
theorem dX4_undo_5 : decode cX4_undo 5 = .ok (.ifCond .eq 15, 3) := by decide +kernel
theorem dX4_undo_8 : decode cX4_undo 8 = .ok (.iload_n 2, 1) := by decide +kernel
theorem dX4_undo_9 : decode cX4_undo 9 = .ok (.i2l, 1) := by decide +kernel
theorem dX4_undo_10 : decode cX4_undo 10 = .ok (.lconst 1, 1) := by decide +kernel
theorem dX4_undo_11 : decode cX4_undo 11 = .ok (.ldc2_w 186, 3) := by decide +kernel
theorem dX4_undo_14 : decode cX4_undo 14 = .ok (.invokestatic 45, 3) := by decide +kernel
theorem dX4_undo_17 : decode cX4_undo 17 = .ok (.ifCond .ne 10, 3) := by decide +kernel
theorem dX4_undo_20 : decode cX4_undo 20 = .ok (.aload_n 0, 1) := by decide +kernel
theorem dX4_undo_21 : decode cX4_undo 21 = .ok (.ldc 37, 2) := by decide +kernel
theorem dX4_undo_23 : decode cX4_undo 23 = .ok (.invokevirtual 39, 3) := by decide +kernel
theorem dX4_undo_26 : decode cX4_undo 26 = .ok (.ireturn, 1) := by decide +kernel
theorem dX4_undo_27 : decode cX4_undo 27 = .ok (.aload_n 0, 1) := by decide +kernel
theorem dX4_undo_28 : decode cX4_undo 28 = .ok (.iload_n 1, 1) := by decide +kernel
theorem dX4_undo_29 : decode cX4_undo 29 = .ok (.invokevirtual 119, 3) := by decide +kernel
theorem dX4_undo_32 : decode cX4_undo 32 = .ok (.ifCond .ne 17, 3) := by decide +kernel
theorem dX4_undo_35 : decode cX4_undo 35 = .ok (.aload_n 0, 1) := by decide +kernel
theorem dX4_undo_36 : decode cX4_undo 36 = .ok (.getfield 9, 3) := by decide +kernel
theorem dX4_undo_39 : decode cX4_undo 39 = .ok (.iconst 0, 1) := by decide +kernel
theorem dX4_undo_40 : decode cX4_undo 40 = .ok (.iaload, 1) := by decide +kernel
theorem dX4_undo_41 : decode cX4_undo 41 = .ok (.iload_n 2, 1) := by decide +kernel
theorem dX4_undo_42 : decode cX4_undo 42 = .ok (.iadd, 1) := by decide +kernel
theorem dX4_undo_43 : decode cX4_undo 43 = .ok (.sipush 999, 3) := by decide +kernel
theorem dX4_undo_46 : decode cX4_undo 46 = .ok (.if_icmp .le 10, 3) := by decide +kernel
theorem dX4_undo_49 : decode cX4_undo 49 = .ok (.aload_n 0, 1) := by decide +kernel
theorem dX4_undo_50 : decode cX4_undo 50 = .ok (.ldc 67, 2) := by decide +kernel
theorem dX4_undo_52 : decode cX4_undo 52 = .ok (.invokevirtual 39, 3) := by decide +kernel
theorem dX4_undo_55 : decode cX4_undo 55 = .ok (.ireturn, 1) := by decide +kernel
theorem dX4_undo_56 : decode cX4_undo 56 = .ok (.iconst 0, 1) := by decide +kernel
theorem dX4_undo_57 : decode cX4_undo 57 = .ok (.istore_n 3, 1) := by decide +kernel
theorem dX4_undo_58 : decode cX4_undo 58 = .ok (.iconst 0, 1) := by decide +kernel
theorem dX4_undo_59 : decode cX4_undo 59 = .ok (.istore 4, 2) := by decide +kernel
theorem dX4_undo_61 : decode cX4_undo 61 = .ok (.iload 4, 2) := by decide +kernel
theorem dX4_undo_63 : decode cX4_undo 63 = .ok (.aload_n 0, 1) := by decide +kernel
theorem dX4_undo_64 : decode cX4_undo 64 = .ok (.getfield 9, 3) := by decide +kernel
theorem dX4_undo_67 : decode cX4_undo 67 = .ok (.bipush 6, 2) := by decide +kernel
theorem dX4_undo_69 : decode cX4_undo 69 = .ok (.iaload, 1) := by decide +kernel
theorem dX4_undo_70 : decode cX4_undo 70 = .ok (.if_icmp .ge 76, 3) := by decide +kernel
theorem dX4_undo_73 : decode cX4_undo 73 = .ok (.iload 4, 2) := by decide +kernel
theorem dX4_undo_75 : decode cX4_undo 75 = .ok (.iload_n 1, 1) := by decide +kernel
theorem dX4_undo_76 : decode cX4_undo 76 = .ok (.if_icmp .eq 64, 3) := by decide +kernel
theorem dX4_undo_79 : decode cX4_undo 79 = .ok (.aload_n 0, 1) := by decide +kernel
theorem dX4_undo_80 : decode cX4_undo 80 = .ok (.iload 4, 2) := by decide +kernel
theorem dX4_undo_82 : decode cX4_undo 82 = .ok (.invokevirtual 119, 3) := by decide +kernel
theorem dX4_undo_85 : decode cX4_undo 85 = .ok (.ifCond .eq 6, 3) := by decide +kernel
theorem dX4_undo_88 : decode cX4_undo 88 = .ok (.goto 52, 3) := by decide +kernel
theorem dX4_undo_91 : decode cX4_undo 91 = .ok (.aload_n 0, 1) := by decide +kernel
theorem dX4_undo_92 : decode cX4_undo 92 = .ok (.iload 4, 2) := by decide +kernel
theorem dX4_undo_94 : decode cX4_undo 94 = .ok (.iconst 1, 1) := by decide +kernel
theorem dX4_undo_95 : decode cX4_undo 95 = .ok (.invokevirtual 51, 3) := by decide +kernel
theorem dX4_undo_98 : decode cX4_undo 98 = .ok (.istore 5, 2) := by decide +kernel
theorem dX4_undo_100 : decode cX4_undo 100 = .ok (.aload_n 0, 1) := by decide +kernel
theorem dX4_undo_101 : decode cX4_undo 101 = .ok (.iload 4, 2) := by decide +kernel
theorem dX4_undo_103 : decode cX4_undo 103 = .ok (.iconst 1, 1) := by decide +kernel
theorem dX4_undo_104 : decode cX4_undo 104 = .ok (.iconst (-1), 1) := by decide +kernel
theorem dX4_undo_105 : decode cX4_undo 105 = .ok (.invokevirtual 87, 3) := by decide +kernel
theorem dX4_undo_108 : decode cX4_undo 108 = .ok (.iload_n 3, 1) := by decide +kernel
theorem dX4_undo_109 : decode cX4_undo 109 = .ok (.aload_n 0, 1) := by decide +kernel
theorem dX4_undo_110 : decode cX4_undo 110 = .ok (.iload_n 2, 1) := by decide +kernel
theorem dX4_undo_111 : decode cX4_undo 111 = .ok (.iconst 4, 1) := by decide +kernel
theorem dX4_undo_112 : decode cX4_undo 112 = .ok (.iload_n 1, 1) := by decide +kernel
theorem dX4_undo_113 : decode cX4_undo 113 = .ok (.iadd, 1) := by decide +kernel
theorem dX4_undo_114 : decode cX4_undo 114 = .ok (.invokevirtual 172, 3) := by decide +kernel
theorem dX4_undo_117 : decode cX4_undo 117 = .ok (.iconst (-1), 1) := by decide +kernel
theorem dX4_undo_118 : decode cX4_undo 118 = .ok (.if_icmp .ne 7, 3) := by decide +kernel
theorem dX4_undo_121 : decode cX4_undo 121 = .ok (.iconst 0, 1) := by decide +kernel
theorem dX4_undo_122 : decode cX4_undo 122 = .ok (.goto 7, 3) := by decide +kernel
theorem dX4_undo_125 : decode cX4_undo 125 = .ok (.iconst 1, 1) := by decide +kernel
theorem dX4_undo_126 : decode cX4_undo 126 = .ok (.iload 4, 2) := by decide +kernel
theorem dX4_undo_128 : decode cX4_undo 128 = .ok (.ishl, 1) := by decide +kernel
theorem dX4_undo_129 : decode cX4_undo 129 = .ok (.ior, 1) := by decide +kernel
theorem dX4_undo_130 : decode cX4_undo 130 = .ok (.istore_n 3, 1) := by decide +kernel
theorem dX4_undo_131 : decode cX4_undo 131 = .ok (.aload_n 0, 1) := by decide +kernel
theorem dX4_undo_132 : decode cX4_undo 132 = .ok (.iload 4, 2) := by decide +kernel
theorem dX4_undo_134 : decode cX4_undo 134 = .ok (.iconst 1, 1) := by decide +kernel
theorem dX4_undo_135 : decode cX4_undo 135 = .ok (.iload 5, 2) := by decide +kernel
theorem dX4_undo_137 : decode cX4_undo 137 = .ok (.invokevirtual 87, 3) := by decide +kernel
theorem dX4_undo_140 : decode cX4_undo 140 = .ok (.iinc 4 1, 3) := by decide +kernel
theorem dX4_undo_143 : decode cX4_undo 143 = .ok (.goto (-82), 3) := by decide +kernel
theorem dX4_undo_146 : decode cX4_undo 146 = .ok (.iload_n 3, 1) := by decide +kernel
theorem dX4_undo_147 : decode cX4_undo 147 = .ok (.ireturn, 1) := by decide +kernel
theorem dX4_isSafe_0 : decode cX4_isSafe 0 = .ok (.aload_n 0, 1) := by decide +kernel
theorem dX4_isSafe_1 : decode cX4_isSafe 1 = .ok (.iload_n 1, 1) := by decide +kernel
theorem dX4_isSafe_2 : decode cX4_isSafe 2 = .ok (.invokevirtual 135, 3) := by decide +kernel
theorem dX4_isSafe_5 : decode cX4_isSafe 5 = .ok (.istore_n 2, 1) := by decide +kernel
theorem dX4_isSafe_6 : decode cX4_isSafe 6 = .ok (.iconst 0, 1) := by decide +kernel
theorem dX4_isSafe_7 : decode cX4_isSafe 7 = .ok (.istore_n 3, 1) := by decide +kernel
theorem dX4_isSafe_8 : decode cX4_isSafe 8 = .ok (.iconst 0, 1) := by decide +kernel
theorem dX4_isSafe_9 : decode cX4_isSafe 9 = .ok (.istore 4, 2) := by decide +kernel
theorem dX4_isSafe_11 : decode cX4_isSafe 11 = .ok (.iload 4, 2) := by decide +kernel
theorem dX4_isSafe_13 : decode cX4_isSafe 13 = .ok (.aload_n 0, 1) := by decide +kernel
theorem dX4_isSafe_14 : decode cX4_isSafe 14 = .ok (.getfield 9, 3) := by decide +kernel
theorem dX4_isSafe_17 : decode cX4_isSafe 17 = .ok (.bipush 6, 2) := by decide +kernel
theorem dX4_isSafe_19 : decode cX4_isSafe 19 = .ok (.iaload, 1) := by decide +kernel
theorem dX4_isSafe_20 : decode cX4_isSafe 20 = .ok (.if_icmp .ge 65, 3) := by decide +kernel
theorem dX4_isSafe_23 : decode cX4_isSafe 23 = .ok (.iload_n 3, 1) := by decide +kernel
theorem dX4_isSafe_24 : decode cX4_isSafe 24 = .ok (.iload_n 2, 1) := by decide +kernel
theorem dX4_isSafe_25 : decode cX4_isSafe 25 = .ok (.iload 4, 2) := by decide +kernel
theorem dX4_isSafe_27 : decode cX4_isSafe 27 = .ok (.invokestatic 71, 3) := by decide +kernel
theorem dX4_isSafe_30 : decode cX4_isSafe 30 = .ok (.ifCond .eq 46, 3) := by decide +kernel
theorem dX4_isSafe_33 : decode cX4_isSafe 33 = .ok (.aload_n 0, 1) := by decide +kernel
theorem dX4_isSafe_34 : decode cX4_isSafe 34 = .ok (.iload 4, 2) := by decide +kernel
theorem dX4_isSafe_36 : decode cX4_isSafe 36 = .ok (.invokevirtual 182, 3) := by decide +kernel
theorem dX4_isSafe_39 : decode cX4_isSafe 39 = .ok (.ifCond .ne 30, 3) := by decide +kernel
theorem dX4_isSafe_42 : decode cX4_isSafe 42 = .ok (.aload_n 0, 1) := by decide +kernel
theorem dX4_isSafe_43 : decode cX4_isSafe 43 = .ok (.iload 4, 2) := by decide +kernel
theorem dX4_isSafe_45 : decode cX4_isSafe 45 = .ok (.iconst 0, 1) := by decide +kernel
theorem dX4_isSafe_46 : decode cX4_isSafe 46 = .ok (.invokevirtual 51, 3) := by decide +kernel
theorem dX4_isSafe_49 : decode cX4_isSafe 49 = .ok (.iconst 4, 1) := by decide +kernel
theorem dX4_isSafe_50 : decode cX4_isSafe 50 = .ok (.if_icmp .ne 26, 3) := by decide +kernel
theorem dX4_isSafe_53 : decode cX4_isSafe 53 = .ok (.aload_n 0, 1) := by decide +kernel
theorem dX4_isSafe_54 : decode cX4_isSafe 54 = .ok (.iload 4, 2) := by decide +kernel
theorem dX4_isSafe_56 : decode cX4_isSafe 56 = .ok (.iconst 3, 1) := by decide +kernel
theorem dX4_isSafe_57 : decode cX4_isSafe 57 = .ok (.invokevirtual 51, 3) := by decide +kernel
theorem dX4_isSafe_60 : decode cX4_isSafe 60 = .ok (.aload_n 0, 1) := by decide +kernel
theorem dX4_isSafe_61 : decode cX4_isSafe 61 = .ok (.iload_n 1, 1) := by decide +kernel
theorem dX4_isSafe_62 : decode cX4_isSafe 62 = .ok (.iconst 3, 1) := by decide +kernel
theorem dX4_isSafe_63 : decode cX4_isSafe 63 = .ok (.invokevirtual 51, 3) := by decide +kernel
theorem dX4_isSafe_66 : decode cX4_isSafe 66 = .ok (.if_icmp .eq 10, 3) := by decide +kernel
theorem dX4_isSafe_69 : decode cX4_isSafe 69 = .ok (.iconst 1, 1) := by decide +kernel
theorem dX4_isSafe_70 : decode cX4_isSafe 70 = .ok (.iload 4, 2) := by decide +kernel
theorem dX4_isSafe_72 : decode cX4_isSafe 72 = .ok (.ishl, 1) := by decide +kernel
theorem dX4_isSafe_73 : decode cX4_isSafe 73 = .ok (.goto 4, 3) := by decide +kernel
theorem dX4_isSafe_76 : decode cX4_isSafe 76 = .ok (.iconst 0, 1) := by decide +kernel
theorem dX4_isSafe_77 : decode cX4_isSafe 77 = .ok (.ior, 1) := by decide +kernel
theorem dX4_isSafe_78 : decode cX4_isSafe 78 = .ok (.istore_n 3, 1) := by decide +kernel
theorem dX4_isSafe_79 : decode cX4_isSafe 79 = .ok (.iinc 4 1, 3) := by decide +kernel
theorem dX4_isSafe_82 : decode cX4_isSafe 82 = .ok (.goto (-71), 3) := by decide +kernel
theorem dX4_isSafe_85 : decode cX4_isSafe 85 = .ok (.aload_n 0, 1) := by decide +kernel
theorem dX4_isSafe_86 : decode cX4_isSafe 86 = .ok (.iload_n 3, 1) := by decide +kernel
theorem dX4_isSafe_87 : decode cX4_isSafe 87 = .ok (.invokestatic 58, 3) := by decide +kernel
theorem dX4_isSafe_90 : decode cX4_isSafe 90 = .ok (.iload_n 2, 1) := by decide +kernel
theorem dX4_isSafe_91 : decode cX4_isSafe 91 = .ok (.invokestatic 58, 3) := by decide +kernel
theorem dX4_isSafe_94 : decode cX4_isSafe 94 = .ok (.invokevirtual 141, 3) := by decide +kernel
theorem dX4_isSafe_97 : decode cX4_isSafe 97 = .ok (.ifCond .ne 7, 3) := by decide +kernel
theorem dX4_isSafe_100 : decode cX4_isSafe 100 = .ok (.iconst 1, 1) := by decide +kernel
theorem dX4_isSafe_101 : decode cX4_isSafe 101 = .ok (.goto 4, 3) := by decide +kernel
theorem dX4_isSafe_104 : decode cX4_isSafe 104 = .ok (.iconst 0, 1) := by decide +kernel
theorem dX4_isSafe_105 : decode cX4_isSafe 105 = .ok (.ireturn, 1) := by decide +kernel
theorem dX4_safe_0 : decode cX4_safe 0 = .ok (.iconst 0, 1) := by decide +kernel
theorem dX4_safe_1 : decode cX4_safe 1 = .ok (.istore_n 1, 1) := by decide +kernel
theorem dX4_safe_2 : decode cX4_safe 2 = .ok (.iconst 0, 1) := by decide +kernel
theorem dX4_safe_3 : decode cX4_safe 3 = .ok (.istore_n 2, 1) := by decide +kernel
theorem dX4_safe_4 : decode cX4_safe 4 = .ok (.iload_n 2, 1) := by decide +kernel
theorem dX4_safe_5 : decode cX4_safe 5 = .ok (.aload_n 0, 1) := by decide +kernel
theorem dX4_safe_6 : decode cX4_safe 6 = .ok (.getfield 9, 3) := by decide +kernel
theorem dX4_safe_9 : decode cX4_safe 9 = .ok (.bipush 6, 2) := by decide +kernel
theorem dX4_safe_11 : decode cX4_safe 11 = .ok (.iaload, 1) := by decide +kernel
theorem dX4_safe_12 : decode cX4_safe 12 = .ok (.if_icmp .ge 35, 3) := by decide +kernel
theorem dX4_safe_15 : decode cX4_safe 15 = .ok (.iload_n 1, 1) := by decide +kernel
theorem dX4_safe_16 : decode cX4_safe 16 = .ok (.aload_n 0, 1) := by decide +kernel
theorem dX4_safe_17 : decode cX4_safe 17 = .ok (.iload_n 2, 1) := by decide +kernel
theorem dX4_safe_18 : decode cX4_safe 18 = .ok (.invokevirtual 119, 3) := by decide +kernel
theorem dX4_safe_21 : decode cX4_safe 21 = .ok (.ifCond .ne 17, 3) := by decide +kernel
theorem dX4_safe_24 : decode cX4_safe 24 = .ok (.aload_n 0, 1) := by decide +kernel
theorem dX4_safe_25 : decode cX4_safe 25 = .ok (.iload_n 2, 1) := by decide +kernel
theorem dX4_safe_26 : decode cX4_safe 26 = .ok (.invokevirtual 188, 3) := by decide +kernel
theorem dX4_safe_29 : decode cX4_safe 29 = .ok (.ifCond .eq 9, 3) := by decide +kernel
theorem dX4_safe_32 : decode cX4_safe 32 = .ok (.iconst 1, 1) := by decide +kernel
theorem dX4_safe_33 : decode cX4_safe 33 = .ok (.iload_n 2, 1) := by decide +kernel
theorem dX4_safe_34 : decode cX4_safe 34 = .ok (.ishl, 1) := by decide +kernel
theorem dX4_safe_35 : decode cX4_safe 35 = .ok (.goto 4, 3) := by decide +kernel
theorem dX4_safe_38 : decode cX4_safe 38 = .ok (.iconst 0, 1) := by decide +kernel
theorem dX4_safe_39 : decode cX4_safe 39 = .ok (.ior, 1) := by decide +kernel
theorem dX4_safe_40 : decode cX4_safe 40 = .ok (.istore_n 1, 1) := by decide +kernel
theorem dX4_safe_41 : decode cX4_safe 41 = .ok (.iinc 2 1, 3) := by decide +kernel
theorem dX4_safe_44 : decode cX4_safe 44 = .ok (.goto (-40), 3) := by decide +kernel
theorem dX4_safe_47 : decode cX4_safe 47 = .ok (.iload_n 1, 1) := by decide +kernel
theorem dX4_safe_48 : decode cX4_safe 48 = .ok (.ireturn, 1) := by decide +kernel
theorem dX4_draw_0 : decode cX4_draw 0 = .ok (.aload_n 0, 1) := by decide +kernel
theorem dX4_draw_1 : decode cX4_draw 1 = .ok (.getfield 9, 3) := by decide +kernel
theorem dX4_draw_4 : decode cX4_draw 4 = .ok (.iconst 5, 1) := by decide +kernel
theorem dX4_draw_5 : decode cX4_draw 5 = .ok (.aload_n 0, 1) := by decide +kernel
theorem dX4_draw_6 : decode cX4_draw 6 = .ok (.getfield 9, 3) := by decide +kernel
theorem dX4_draw_9 : decode cX4_draw 9 = .ok (.iconst 5, 1) := by decide +kernel
theorem dX4_draw_10 : decode cX4_draw 10 = .ok (.iaload, 1) := by decide +kernel
theorem dX4_draw_11 : decode cX4_draw 11 = .ok (.ldc 191, 2) := by decide +kernel
theorem dX4_draw_13 : decode cX4_draw 13 = .ok (.imul, 1) := by decide +kernel
theorem dX4_draw_14 : decode cX4_draw 14 = .ok (.sipush 12345, 3) := by decide +kernel
theorem dX4_draw_17 : decode cX4_draw 17 = .ok (.iadd, 1) := by decide +kernel
theorem dX4_draw_18 : decode cX4_draw 18 = .ok (.iastore, 1) := by decide +kernel
theorem dX4_draw_19 : decode cX4_draw 19 = .ok (.aload_n 0, 1) := by decide +kernel
theorem dX4_draw_20 : decode cX4_draw 20 = .ok (.getfield 9, 3) := by decide +kernel
theorem dX4_draw_23 : decode cX4_draw 23 = .ok (.iconst 5, 1) := by decide +kernel
theorem dX4_draw_24 : decode cX4_draw 24 = .ok (.iaload, 1) := by decide +kernel
theorem dX4_draw_25 : decode cX4_draw 25 = .ok (.bipush 8, 2) := by decide +kernel
theorem dX4_draw_27 : decode cX4_draw 27 = .ok (.iushr, 1) := by decide +kernel
theorem dX4_draw_28 : decode cX4_draw 28 = .ok (.ireturn, 1) := by decide +kernel
theorem dX4_grudging_0 : decode cX4_grudging 0 = .ok (.iconst 0, 1) := by decide +kernel
theorem dX4_grudging_1 : decode cX4_grudging 1 = .ok (.istore_n 1, 1) := by decide +kernel
theorem dX4_grudging_2 : decode cX4_grudging 2 = .ok (.iconst 0, 1) := by decide +kernel
theorem dX4_grudging_3 : decode cX4_grudging 3 = .ok (.istore_n 2, 1) := by decide +kernel
theorem dX4_grudging_4 : decode cX4_grudging 4 = .ok (.iload_n 2, 1) := by decide +kernel
theorem dX4_grudging_5 : decode cX4_grudging 5 = .ok (.aload_n 0, 1) := by decide +kernel
theorem dX4_grudging_6 : decode cX4_grudging 6 = .ok (.getfield 9, 3) := by decide +kernel
theorem dX4_grudging_9 : decode cX4_grudging 9 = .ok (.bipush 6, 2) := by decide +kernel
theorem dX4_grudging_11 : decode cX4_grudging 11 = .ok (.iaload, 1) := by decide +kernel
theorem dX4_grudging_12 : decode cX4_grudging 12 = .ok (.if_icmp .ge 26, 3) := by decide +kernel
theorem dX4_grudging_15 : decode cX4_grudging 15 = .ok (.iload_n 1, 1) := by decide +kernel
theorem dX4_grudging_16 : decode cX4_grudging 16 = .ok (.aload_n 0, 1) := by decide +kernel
theorem dX4_grudging_17 : decode cX4_grudging 17 = .ok (.iload_n 2, 1) := by decide +kernel
theorem dX4_grudging_18 : decode cX4_grudging 18 = .ok (.iconst 5, 1) := by decide +kernel
theorem dX4_grudging_19 : decode cX4_grudging 19 = .ok (.invokevirtual 51, 3) := by decide +kernel
theorem dX4_grudging_22 : decode cX4_grudging 22 = .ok (.ifCond .ge 7, 3) := by decide +kernel
theorem dX4_grudging_25 : decode cX4_grudging 25 = .ok (.iconst 0, 1) := by decide +kernel
theorem dX4_grudging_26 : decode cX4_grudging 26 = .ok (.goto 4, 3) := by decide +kernel
theorem dX4_grudging_29 : decode cX4_grudging 29 = .ok (.iconst 1, 1) := by decide +kernel
theorem dX4_grudging_30 : decode cX4_grudging 30 = .ok (.iadd, 1) := by decide +kernel
theorem dX4_grudging_31 : decode cX4_grudging 31 = .ok (.istore_n 1, 1) := by decide +kernel
theorem dX4_grudging_32 : decode cX4_grudging 32 = .ok (.iinc 2 1, 3) := by decide +kernel
theorem dX4_grudging_35 : decode cX4_grudging 35 = .ok (.goto (-31), 3) := by decide +kernel
theorem dX4_grudging_38 : decode cX4_grudging 38 = .ok (.iload_n 1, 1) := by decide +kernel
theorem dX4_grudging_39 : decode cX4_grudging 39 = .ok (.ireturn, 1) := by decide +kernel
theorem dX4_rumours_0 : decode cX4_rumours 0 = .ok (.iload_n 1, 1) := by decide +kernel
theorem dX4_rumours_1 : decode cX4_rumours 1 = .ok (.i2l, 1) := by decide +kernel
theorem dX4_rumours_2 : decode cX4_rumours 2 = .ok (.lconst 1, 1) := by decide +kernel
theorem dX4_rumours_3 : decode cX4_rumours 3 = .ok (.ldc2_w 180, 3) := by decide +kernel
theorem dX4_rumours_6 : decode cX4_rumours 6 = .ok (.invokestatic 45, 3) := by decide +kernel
theorem dX4_rumours_9 : decode cX4_rumours 9 = .ok (.ifCond .ne 10, 3) := by decide +kernel
theorem dX4_rumours_12 : decode cX4_rumours 12 = .ok (.aload_n 0, 1) := by decide +kernel
theorem dX4_rumours_13 : decode cX4_rumours 13 = .ok (.ldc 37, 2) := by decide +kernel
theorem dX4_rumours_15 : decode cX4_rumours 15 = .ok (.invokevirtual 39, 3) := by decide +kernel
theorem dX4_rumours_18 : decode cX4_rumours 18 = .ok (.ireturn, 1) := by decide +kernel
theorem dX4_rumours_19 : decode cX4_rumours 19 = .ok (.aload_n 0, 1) := by decide +kernel
theorem dX4_rumours_20 : decode cX4_rumours 20 = .ok (.getfield 9, 3) := by decide +kernel
theorem dX4_rumours_23 : decode cX4_rumours 23 = .ok (.bipush 6, 2) := by decide +kernel
theorem dX4_rumours_25 : decode cX4_rumours 25 = .ok (.iaload, 1) := by decide +kernel
theorem dX4_rumours_26 : decode cX4_rumours 26 = .ok (.ifCond .ne 10, 3) := by decide +kernel
theorem dX4_rumours_29 : decode cX4_rumours 29 = .ok (.aload_n 0, 1) := by decide +kernel
theorem dX4_rumours_30 : decode cX4_rumours 30 = .ok (.ldc 67, 2) := by decide +kernel
theorem dX4_rumours_32 : decode cX4_rumours 32 = .ok (.invokevirtual 39, 3) := by decide +kernel
theorem dX4_rumours_35 : decode cX4_rumours 35 = .ok (.ireturn, 1) := by decide +kernel
theorem dX4_rumours_36 : decode cX4_rumours 36 = .ok (.iconst 0, 1) := by decide +kernel
theorem dX4_rumours_37 : decode cX4_rumours 37 = .ok (.istore_n 2, 1) := by decide +kernel
theorem dX4_rumours_38 : decode cX4_rumours 38 = .ok (.iload_n 2, 1) := by decide +kernel
theorem dX4_rumours_39 : decode cX4_rumours 39 = .ok (.iload_n 1, 1) := by decide +kernel
theorem dX4_rumours_40 : decode cX4_rumours 40 = .ok (.if_icmp .ge 54, 3) := by decide +kernel
theorem dX4_rumours_43 : decode cX4_rumours 43 = .ok (.aload_n 0, 1) := by decide +kernel
theorem dX4_rumours_44 : decode cX4_rumours 44 = .ok (.invokevirtual 192, 3) := by decide +kernel
theorem dX4_rumours_47 : decode cX4_rumours 47 = .ok (.aload_n 0, 1) := by decide +kernel
theorem dX4_rumours_48 : decode cX4_rumours 48 = .ok (.getfield 9, 3) := by decide +kernel
theorem dX4_rumours_51 : decode cX4_rumours 51 = .ok (.bipush 6, 2) := by decide +kernel
theorem dX4_rumours_53 : decode cX4_rumours 53 = .ok (.iaload, 1) := by decide +kernel
theorem dX4_rumours_54 : decode cX4_rumours 54 = .ok (.irem, 1) := by decide +kernel
theorem dX4_rumours_55 : decode cX4_rumours 55 = .ok (.istore_n 3, 1) := by decide +kernel
theorem dX4_rumours_56 : decode cX4_rumours 56 = .ok (.aload_n 0, 1) := by decide +kernel
theorem dX4_rumours_57 : decode cX4_rumours 57 = .ok (.invokevirtual 192, 3) := by decide +kernel
theorem dX4_rumours_60 : decode cX4_rumours 60 = .ok (.aload_n 0, 1) := by decide +kernel
theorem dX4_rumours_61 : decode cX4_rumours 61 = .ok (.getfield 9, 3) := by decide +kernel
theorem dX4_rumours_64 : decode cX4_rumours 64 = .ok (.bipush 6, 2) := by decide +kernel
theorem dX4_rumours_66 : decode cX4_rumours 66 = .ok (.iaload, 1) := by decide +kernel
theorem dX4_rumours_67 : decode cX4_rumours 67 = .ok (.irem, 1) := by decide +kernel
theorem dX4_rumours_68 : decode cX4_rumours 68 = .ok (.istore 4, 2) := by decide +kernel
theorem dX4_rumours_70 : decode cX4_rumours 70 = .ok (.aload_n 0, 1) := by decide +kernel
theorem dX4_rumours_71 : decode cX4_rumours 71 = .ok (.iload_n 3, 1) := by decide +kernel
theorem dX4_rumours_72 : decode cX4_rumours 72 = .ok (.iload_n 3, 1) := by decide +kernel
theorem dX4_rumours_73 : decode cX4_rumours 73 = .ok (.iload 4, 2) := by decide +kernel
theorem dX4_rumours_75 : decode cX4_rumours 75 = .ok (.if_icmp .ne 7, 3) := by decide +kernel
theorem dX4_rumours_78 : decode cX4_rumours 78 = .ok (.iconst (-1), 1) := by decide +kernel
theorem dX4_rumours_79 : decode cX4_rumours 79 = .ok (.goto 5, 3) := by decide +kernel
theorem dX4_rumours_82 : decode cX4_rumours 82 = .ok (.iload 4, 2) := by decide +kernel
theorem dX4_rumours_84 : decode cX4_rumours 84 = .ok (.invokevirtual 116, 3) := by decide +kernel
theorem dX4_rumours_87 : decode cX4_rumours 87 = .ok (.pop, 1) := by decide +kernel
theorem dX4_rumours_88 : decode cX4_rumours 88 = .ok (.iinc 2 1, 3) := by decide +kernel
theorem dX4_rumours_91 : decode cX4_rumours 91 = .ok (.goto (-53), 3) := by decide +kernel
theorem dX4_rumours_94 : decode cX4_rumours 94 = .ok (.aload_n 0, 1) := by decide +kernel
theorem dX4_rumours_95 : decode cX4_rumours 95 = .ok (.invokevirtual 195, 3) := by decide +kernel
theorem dX4_rumours_98 : decode cX4_rumours 98 = .ok (.ireturn, 1) := by decide +kernel
theorem dX4_seed_0 : decode cX4_seed 0 = .ok (.aload_n 0, 1) := by decide +kernel
theorem dX4_seed_1 : decode cX4_seed 1 = .ok (.iconst 5, 1) := by decide +kernel
theorem dX4_seed_2 : decode cX4_seed 2 = .ok (.iload_n 1, 1) := by decide +kernel
theorem dX4_seed_3 : decode cX4_seed 3 = .ok (.invokevirtual 68, 3) := by decide +kernel
theorem dX4_seed_6 : decode cX4_seed 6 = .ok (.ireturn, 1) := by decide +kernel
theorem dX4_feed_0 : decode cX4_feed 0 = .ok (.iload_n 2, 1) := by decide +kernel
theorem dX4_feed_1 : decode cX4_feed 1 = .ok (.i2l, 1) := by decide +kernel
theorem dX4_feed_2 : decode cX4_feed 2 = .ok (.lconst 1, 1) := by decide +kernel
theorem dX4_feed_3 : decode cX4_feed 3 = .ok (.ldc2_w 65, 3) := by decide +kernel
theorem dX4_feed_6 : decode cX4_feed 6 = .ok (.invokestatic 45, 3) := by decide +kernel
theorem dX4_feed_9 : decode cX4_feed 9 = .ok (.ifCond .ne 10, 3) := by decide +kernel
theorem dX4_feed_12 : decode cX4_feed 12 = .ok (.aload_n 0, 1) := by decide +kernel
theorem dX4_feed_13 : decode cX4_feed 13 = .ok (.ldc 37, 2) := by decide +kernel
theorem dX4_feed_15 : decode cX4_feed 15 = .ok (.invokevirtual 39, 3) := by decide +kernel
theorem dX4_feed_18 : decode cX4_feed 18 = .ok (.ireturn, 1) := by decide +kernel
theorem dX4_feed_19 : decode cX4_feed 19 = .ok (.aload_n 0, 1) := by decide +kernel
theorem dX4_feed_20 : decode cX4_feed 20 = .ok (.getfield 198, 3) := by decide +kernel
theorem dX4_feed_23 : decode cX4_feed 23 = .ok (.iload_n 2, 1) := by decide +kernel
theorem dX4_feed_24 : decode cX4_feed 24 = .ok (.iadd, 1) := by decide +kernel
theorem dX4_feed_25 : decode cX4_feed 25 = .ok (.bipush 120, 2) := by decide +kernel
theorem dX4_feed_27 : decode cX4_feed 27 = .ok (.if_icmp .le 10, 3) := by decide +kernel
theorem dX4_feed_30 : decode cX4_feed 30 = .ok (.aload_n 0, 1) := by decide +kernel
theorem dX4_feed_31 : decode cX4_feed 31 = .ok (.ldc 97, 2) := by decide +kernel
theorem dX4_feed_33 : decode cX4_feed 33 = .ok (.invokevirtual 39, 3) := by decide +kernel
theorem dX4_feed_36 : decode cX4_feed 36 = .ok (.ireturn, 1) := by decide +kernel
theorem dX4_feed_37 : decode cX4_feed 37 = .ok (.iload_n 2, 1) := by decide +kernel
theorem dX4_feed_38 : decode cX4_feed 38 = .ok (.iconst 1, 1) := by decide +kernel
theorem dX4_feed_39 : decode cX4_feed 39 = .ok (.isub, 1) := by decide +kernel
theorem dX4_feed_40 : decode cX4_feed 40 = .ok (.istore_n 3, 1) := by decide +kernel
theorem dX4_feed_41 : decode cX4_feed 41 = .ok (.iload_n 3, 1) := by decide +kernel
theorem dX4_feed_42 : decode cX4_feed 42 = .ok (.ifCond .lt 38, 3) := by decide +kernel
theorem dX4_feed_45 : decode cX4_feed 45 = .ok (.aload_n 0, 1) := by decide +kernel
theorem dX4_feed_46 : decode cX4_feed 46 = .ok (.getfield 25, 3) := by decide +kernel
theorem dX4_feed_49 : decode cX4_feed 49 = .ok (.aload_n 0, 1) := by decide +kernel
theorem dX4_feed_50 : decode cX4_feed 50 = .ok (.getfield 198, 3) := by decide +kernel
theorem dX4_feed_53 : decode cX4_feed 53 = .ok (.iload_n 1, 1) := by decide +kernel
theorem dX4_feed_54 : decode cX4_feed 54 = .ok (.bipush 8, 2) := by decide +kernel
theorem dX4_feed_56 : decode cX4_feed 56 = .ok (.iload_n 3, 1) := by decide +kernel
theorem dX4_feed_57 : decode cX4_feed 57 = .ok (.imul, 1) := by decide +kernel
theorem dX4_feed_58 : decode cX4_feed 58 = .ok (.ishr, 1) := by decide +kernel
theorem dX4_feed_59 : decode cX4_feed 59 = .ok (.sipush 255, 3) := by decide +kernel
theorem dX4_feed_62 : decode cX4_feed 62 = .ok (.iand, 1) := by decide +kernel
theorem dX4_feed_63 : decode cX4_feed 63 = .ok (.iastore, 1) := by decide +kernel
theorem dX4_feed_64 : decode cX4_feed 64 = .ok (.aload_n 0, 1) := by decide +kernel
theorem dX4_feed_65 : decode cX4_feed 65 = .ok (.dup, 1) := by decide +kernel
theorem dX4_feed_66 : decode cX4_feed 66 = .ok (.getfield 198, 3) := by decide +kernel
theorem dX4_feed_69 : decode cX4_feed 69 = .ok (.iconst 1, 1) := by decide +kernel
theorem dX4_feed_70 : decode cX4_feed 70 = .ok (.iadd, 1) := by decide +kernel
theorem dX4_feed_71 : decode cX4_feed 71 = .ok (.putfield 198, 3) := by decide +kernel
theorem dX4_feed_74 : decode cX4_feed 74 = .ok (.iinc 3 (-1), 3) := by decide +kernel
theorem dX4_feed_77 : decode cX4_feed 77 = .ok (.goto (-36), 3) := by decide +kernel
theorem dX4_feed_80 : decode cX4_feed 80 = .ok (.aload_n 0, 1) := by decide +kernel
theorem dX4_feed_81 : decode cX4_feed 81 = .ok (.getfield 198, 3) := by decide +kernel
theorem dX4_feed_84 : decode cX4_feed 84 = .ok (.ireturn, 1) := by decide +kernel
theorem dX4_wipe_0 : decode cX4_wipe 0 = .ok (.aload_n 0, 1) := by decide +kernel
theorem dX4_wipe_1 : decode cX4_wipe 1 = .ok (.getfield 198, 3) := by decide +kernel
theorem dX4_wipe_4 : decode cX4_wipe 4 = .ok (.istore_n 1, 1) := by decide +kernel
theorem dX4_wipe_5 : decode cX4_wipe 5 = .ok (.aload_n 0, 1) := by decide +kernel
theorem dX4_wipe_6 : decode cX4_wipe 6 = .ok (.iconst 0, 1) := by decide +kernel
theorem dX4_wipe_7 : decode cX4_wipe 7 = .ok (.putfield 198, 3) := by decide +kernel
theorem dX4_wipe_10 : decode cX4_wipe 10 = .ok (.iload_n 1, 1) := by decide +kernel
theorem dX4_wipe_11 : decode cX4_wipe 11 = .ok (.ireturn, 1) := by decide +kernel
theorem dX4_isByte_0 : decode cX4_isByte 0 = .ok (.iload_n 1, 1) := by decide +kernel
theorem dX4_isByte_1 : decode cX4_isByte 1 = .ok (.aload_n 0, 1) := by decide +kernel
theorem dX4_isByte_2 : decode cX4_isByte 2 = .ok (.getfield 198, 3) := by decide +kernel
theorem dX4_isByte_5 : decode cX4_isByte 5 = .ok (.if_icmp .ge 24, 3) := by decide +kernel
theorem dX4_isByte_8 : decode cX4_isByte 8 = .ok (.aload_n 0, 1) := by decide +kernel
theorem dX4_isByte_9 : decode cX4_isByte 9 = .ok (.getfield 25, 3) := by decide +kernel
theorem dX4_isByte_12 : decode cX4_isByte 12 = .ok (.iload_n 1, 1) := by decide +kernel
theorem dX4_isByte_13 : decode cX4_isByte 13 = .ok (.iaload, 1) := by decide +kernel
theorem dX4_isByte_14 : decode cX4_isByte 14 = .ok (.i2l, 1) := by decide +kernel
theorem dX4_isByte_15 : decode cX4_isByte 15 = .ok (.iload_n 2, 1) := by decide +kernel
theorem dX4_isByte_16 : decode cX4_isByte 16 = .ok (.i2l, 1) := by decide +kernel
theorem dX4_isByte_17 : decode cX4_isByte 17 = .ok (.iload_n 3, 1) := by decide +kernel
theorem dX4_isByte_18 : decode cX4_isByte 18 = .ok (.i2l, 1) := by decide +kernel
theorem dX4_isByte_19 : decode cX4_isByte 19 = .ok (.invokestatic 45, 3) := by decide +kernel
theorem dX4_isByte_22 : decode cX4_isByte 22 = .ok (.ifCond .eq 7, 3) := by decide +kernel
theorem dX4_isByte_25 : decode cX4_isByte 25 = .ok (.iconst 1, 1) := by decide +kernel
theorem dX4_isByte_26 : decode cX4_isByte 26 = .ok (.goto 4, 3) := by decide +kernel
theorem dX4_isByte_29 : decode cX4_isByte 29 = .ok (.iconst 0, 1) := by decide +kernel
theorem dX4_isByte_30 : decode cX4_isByte 30 = .ok (.ireturn, 1) := by decide +kernel
theorem dX4_token_0 : decode cX4_token 0 = .ok (.aload_n 0, 1) := by decide +kernel
theorem dX4_token_1 : decode cX4_token 1 = .ok (.aload_n 0, 1) := by decide +kernel
theorem dX4_token_2 : decode cX4_token 2 = .ok (.getfield 202, 3) := by decide +kernel
theorem dX4_token_5 : decode cX4_token 5 = .ok (.putfield 205, 3) := by decide +kernel
theorem dX4_token_8 : decode cX4_token 8 = .ok (.aload_n 0, 1) := by decide +kernel
theorem dX4_token_9 : decode cX4_token 9 = .ok (.aload_n 0, 1) := by decide +kernel
theorem dX4_token_10 : decode cX4_token 10 = .ok (.getfield 205, 3) := by decide +kernel
theorem dX4_token_13 : decode cX4_token 13 = .ok (.bipush 32, 2) := by decide +kernel
theorem dX4_token_15 : decode cX4_token 15 = .ok (.bipush 32, 2) := by decide +kernel
theorem dX4_token_17 : decode cX4_token 17 = .ok (.invokevirtual 208, 3) := by decide +kernel
theorem dX4_token_20 : decode cX4_token 20 = .ok (.ifCond .eq 16, 3) := by decide +kernel
theorem dX4_token_23 : decode cX4_token 23 = .ok (.aload_n 0, 1) := by decide +kernel
theorem dX4_token_24 : decode cX4_token 24 = .ok (.dup, 1) := by decide +kernel
theorem dX4_token_25 : decode cX4_token 25 = .ok (.getfield 205, 3) := by decide +kernel
theorem dX4_token_28 : decode cX4_token 28 = .ok (.iconst 1, 1) := by decide +kernel
theorem dX4_token_29 : decode cX4_token 29 = .ok (.iadd, 1) := by decide +kernel
theorem dX4_token_30 : decode cX4_token 30 = .ok (.putfield 205, 3) := by decide +kernel
theorem dX4_token_33 : decode cX4_token 33 = .ok (.goto (-25), 3) := by decide +kernel
theorem dX4_token_36 : decode cX4_token 36 = .ok (.aload_n 0, 1) := by decide +kernel
theorem dX4_token_37 : decode cX4_token 37 = .ok (.aload_n 0, 1) := by decide +kernel
theorem dX4_token_38 : decode cX4_token 38 = .ok (.getfield 205, 3) := by decide +kernel
theorem dX4_token_41 : decode cX4_token 41 = .ok (.putfield 202, 3) := by decide +kernel
theorem dX4_token_44 : decode cX4_token 44 = .ok (.aload_n 0, 1) := by decide +kernel
theorem dX4_token_45 : decode cX4_token 45 = .ok (.iconst 0, 1) := by decide +kernel
theorem dX4_token_46 : decode cX4_token 46 = .ok (.putfield 212, 3) := by decide +kernel
theorem dX4_token_49 : decode cX4_token 49 = .ok (.aload_n 0, 1) := by decide +kernel
theorem dX4_token_50 : decode cX4_token 50 = .ok (.aload_n 0, 1) := by decide +kernel
theorem dX4_token_51 : decode cX4_token 51 = .ok (.getfield 205, 3) := by decide +kernel
theorem dX4_token_54 : decode cX4_token 54 = .ok (.aload_n 0, 1) := by decide +kernel
theorem dX4_token_55 : decode cX4_token 55 = .ok (.getfield 198, 3) := by decide +kernel
theorem dX4_token_58 : decode cX4_token 58 = .ok (.if_icmp .ne 7, 3) := by decide +kernel
theorem dX4_token_61 : decode cX4_token 61 = .ok (.iconst 0, 1) := by decide +kernel
theorem dX4_token_62 : decode cX4_token 62 = .ok (.goto 42, 3) := by decide +kernel
theorem dX4_token_65 : decode cX4_token 65 = .ok (.aload_n 0, 1) := by decide +kernel
theorem dX4_token_66 : decode cX4_token 66 = .ok (.aload_n 0, 1) := by decide +kernel
theorem dX4_token_67 : decode cX4_token 67 = .ok (.getfield 205, 3) := by decide +kernel
theorem dX4_token_70 : decode cX4_token 70 = .ok (.bipush 97, 2) := by decide +kernel
theorem dX4_token_72 : decode cX4_token 72 = .ok (.bipush 122, 2) := by decide +kernel
theorem dX4_token_74 : decode cX4_token 74 = .ok (.invokevirtual 208, 3) := by decide +kernel
theorem dX4_token_77 : decode cX4_token 77 = .ok (.ifCond .eq 7, 3) := by decide +kernel
theorem dX4_token_80 : decode cX4_token 80 = .ok (.iconst 1, 1) := by decide +kernel
theorem dX4_token_81 : decode cX4_token 81 = .ok (.goto 23, 3) := by decide +kernel
theorem dX4_token_84 : decode cX4_token 84 = .ok (.aload_n 0, 1) := by decide +kernel
theorem dX4_token_85 : decode cX4_token 85 = .ok (.aload_n 0, 1) := by decide +kernel
theorem dX4_token_86 : decode cX4_token 86 = .ok (.getfield 205, 3) := by decide +kernel
theorem dX4_token_89 : decode cX4_token 89 = .ok (.bipush 48, 2) := by decide +kernel
theorem dX4_token_91 : decode cX4_token 91 = .ok (.bipush 57, 2) := by decide +kernel
theorem dX4_token_93 : decode cX4_token 93 = .ok (.invokevirtual 208, 3) := by decide +kernel
theorem dX4_token_96 : decode cX4_token 96 = .ok (.ifCond .eq 7, 3) := by decide +kernel
theorem dX4_token_99 : decode cX4_token 99 = .ok (.iconst 2, 1) := by decide +kernel
theorem dX4_token_100 : decode cX4_token 100 = .ok (.goto 4, 3) := by decide +kernel
theorem dX4_token_103 : decode cX4_token 103 = .ok (.iconst 3, 1) := by decide +kernel
theorem dX4_token_104 : decode cX4_token 104 = .ok (.putfield 215, 3) := by decide +kernel
theorem dX4_token_107 : decode cX4_token 107 = .ok (.aload_n 0, 1) := by decide +kernel
theorem dX4_token_108 : decode cX4_token 108 = .ok (.getfield 215, 3) := by decide +kernel
theorem dX4_token_111 : decode cX4_token 111 = .ok (.iconst 3, 1) := by decide +kernel
theorem dX4_token_112 : decode cX4_token 112 = .ok (.if_icmp .ne 13, 3) := by decide +kernel
theorem dX4_token_115 : decode cX4_token 115 = .ok (.aload_n 0, 1) := by decide +kernel
theorem dX4_token_116 : decode cX4_token 116 = .ok (.dup, 1) := by decide +kernel
theorem dX4_token_117 : decode cX4_token 117 = .ok (.getfield 202, 3) := by decide +kernel
theorem dX4_token_120 : decode cX4_token 120 = .ok (.iconst 1, 1) := by decide +kernel
theorem dX4_token_121 : decode cX4_token 121 = .ok (.iadd, 1) := by decide +kernel
theorem dX4_token_122 : decode cX4_token 122 = .ok (.putfield 202, 3) := by decide +kernel
theorem dX4_token_125 : decode cX4_token 125 = .ok (.aload_n 0, 1) := by decide +kernel
theorem dX4_token_126 : decode cX4_token 126 = .ok (.getfield 215, 3) := by decide +kernel
theorem dX4_token_129 : decode cX4_token 129 = .ok (.iconst 1, 1) := by decide +kernel
theorem dX4_token_130 : decode cX4_token 130 = .ok (.if_icmp .ne 31, 3) := by decide +kernel
theorem dX4_token_133 : decode cX4_token 133 = .ok (.aload_n 0, 1) := by decide +kernel
theorem dX4_token_134 : decode cX4_token 134 = .ok (.aload_n 0, 1) := by decide +kernel
theorem dX4_token_135 : decode cX4_token 135 = .ok (.getfield 202, 3) := by decide +kernel
theorem dX4_token_138 : decode cX4_token 138 = .ok (.bipush 97, 2) := by decide +kernel
theorem dX4_token_140 : decode cX4_token 140 = .ok (.bipush 122, 2) := by decide +kernel
theorem dX4_token_142 : decode cX4_token 142 = .ok (.invokevirtual 208, 3) := by decide +kernel
theorem dX4_token_145 : decode cX4_token 145 = .ok (.ifCond .eq 16, 3) := by decide +kernel
theorem dX4_token_148 : decode cX4_token 148 = .ok (.aload_n 0, 1) := by decide +kernel
theorem dX4_token_149 : decode cX4_token 149 = .ok (.dup, 1) := by decide +kernel
theorem dX4_token_150 : decode cX4_token 150 = .ok (.getfield 202, 3) := by decide +kernel
theorem dX4_token_153 : decode cX4_token 153 = .ok (.iconst 1, 1) := by decide +kernel
theorem dX4_token_154 : decode cX4_token 154 = .ok (.iadd, 1) := by decide +kernel
theorem dX4_token_155 : decode cX4_token 155 = .ok (.putfield 202, 3) := by decide +kernel
theorem dX4_token_158 : decode cX4_token 158 = .ok (.goto (-33), 3) := by decide +kernel
theorem dX4_token_161 : decode cX4_token 161 = .ok (.aload_n 0, 1) := by decide +kernel
theorem dX4_token_162 : decode cX4_token 162 = .ok (.getfield 215, 3) := by decide +kernel
theorem dX4_token_165 : decode cX4_token 165 = .ok (.iconst 2, 1) := by decide +kernel
theorem dX4_token_166 : decode cX4_token 166 = .ok (.if_icmp .ne 72, 3) := by decide +kernel
theorem dX4_token_169 : decode cX4_token 169 = .ok (.aload_n 0, 1) := by decide +kernel
theorem dX4_token_170 : decode cX4_token 170 = .ok (.aload_n 0, 1) := by decide +kernel
theorem dX4_token_171 : decode cX4_token 171 = .ok (.getfield 202, 3) := by decide +kernel
theorem dX4_token_174 : decode cX4_token 174 = .ok (.bipush 48, 2) := by decide +kernel
theorem dX4_token_176 : decode cX4_token 176 = .ok (.bipush 57, 2) := by decide +kernel
theorem dX4_token_178 : decode cX4_token 178 = .ok (.invokevirtual 208, 3) := by decide +kernel
theorem dX4_token_181 : decode cX4_token 181 = .ok (.ifCond .eq 57, 3) := by decide +kernel
theorem dX4_token_184 : decode cX4_token 184 = .ok (.aload_n 0, 1) := by decide +kernel
theorem dX4_token_185 : decode cX4_token 185 = .ok (.aload_n 0, 1) := by decide +kernel
theorem dX4_token_186 : decode cX4_token 186 = .ok (.getfield 212, 3) := by decide +kernel
theorem dX4_token_189 : decode cX4_token 189 = .ok (.sipush 9999, 3) := by decide +kernel
theorem dX4_token_192 : decode cX4_token 192 = .ok (.if_icmp .le 10, 3) := by decide +kernel
theorem dX4_token_195 : decode cX4_token 195 = .ok (.aload_n 0, 1) := by decide +kernel
theorem dX4_token_196 : decode cX4_token 196 = .ok (.getfield 212, 3) := by decide +kernel
theorem dX4_token_199 : decode cX4_token 199 = .ok (.goto 23, 3) := by decide +kernel
theorem dX4_token_202 : decode cX4_token 202 = .ok (.bipush 10, 2) := by decide +kernel
theorem dX4_token_204 : decode cX4_token 204 = .ok (.aload_n 0, 1) := by decide +kernel
theorem dX4_token_205 : decode cX4_token 205 = .ok (.getfield 212, 3) := by decide +kernel
theorem dX4_token_208 : decode cX4_token 208 = .ok (.imul, 1) := by decide +kernel
theorem dX4_token_209 : decode cX4_token 209 = .ok (.aload_n 0, 1) := by decide +kernel
theorem dX4_token_210 : decode cX4_token 210 = .ok (.getfield 25, 3) := by decide +kernel
theorem dX4_token_213 : decode cX4_token 213 = .ok (.aload_n 0, 1) := by decide +kernel
theorem dX4_token_214 : decode cX4_token 214 = .ok (.getfield 202, 3) := by decide +kernel
theorem dX4_token_217 : decode cX4_token 217 = .ok (.iaload, 1) := by decide +kernel
theorem dX4_token_218 : decode cX4_token 218 = .ok (.iadd, 1) := by decide +kernel
theorem dX4_token_219 : decode cX4_token 219 = .ok (.bipush 48, 2) := by decide +kernel
theorem dX4_token_221 : decode cX4_token 221 = .ok (.isub, 1) := by decide +kernel
theorem dX4_token_222 : decode cX4_token 222 = .ok (.putfield 212, 3) := by decide +kernel
theorem dX4_token_225 : decode cX4_token 225 = .ok (.aload_n 0, 1) := by decide +kernel
theorem dX4_token_226 : decode cX4_token 226 = .ok (.dup, 1) := by decide +kernel
theorem dX4_token_227 : decode cX4_token 227 = .ok (.getfield 202, 3) := by decide +kernel
theorem dX4_token_230 : decode cX4_token 230 = .ok (.iconst 1, 1) := by decide +kernel
theorem dX4_token_231 : decode cX4_token 231 = .ok (.iadd, 1) := by decide +kernel
theorem dX4_token_232 : decode cX4_token 232 = .ok (.putfield 202, 3) := by decide +kernel
theorem dX4_token_235 : decode cX4_token 235 = .ok (.goto (-74), 3) := by decide +kernel
theorem dX4_token_238 : decode cX4_token 238 = .ok (.return_, 1) := by decide +kernel
theorem dX4_isWord_0 : decode cX4_isWord 0 = .ok (.aload_n 0, 1) := by decide +kernel
theorem dX4_isWord_1 : decode cX4_isWord 1 = .ok (.getfield 218, 3) := by decide +kernel
theorem dX4_isWord_4 : decode cX4_isWord 4 = .ok (.ifCond .ne 31, 3) := by decide +kernel
theorem dX4_isWord_7 : decode cX4_isWord 7 = .ok (.aload_n 0, 1) := by decide +kernel
theorem dX4_isWord_8 : decode cX4_isWord 8 = .ok (.getfield 215, 3) := by decide +kernel
theorem dX4_isWord_11 : decode cX4_isWord 11 = .ok (.iconst 1, 1) := by decide +kernel
theorem dX4_isWord_12 : decode cX4_isWord 12 = .ok (.if_icmp .ne 23, 3) := by decide +kernel
theorem dX4_isWord_15 : decode cX4_isWord 15 = .ok (.aload_n 0, 1) := by decide +kernel
theorem dX4_isWord_16 : decode cX4_isWord 16 = .ok (.getfield 202, 3) := by decide +kernel
theorem dX4_isWord_19 : decode cX4_isWord 19 = .ok (.aload_n 0, 1) := by decide +kernel
theorem dX4_isWord_20 : decode cX4_isWord 20 = .ok (.getfield 205, 3) := by decide +kernel
theorem dX4_isWord_23 : decode cX4_isWord 23 = .ok (.isub, 1) := by decide +kernel
theorem dX4_isWord_24 : decode cX4_isWord 24 = .ok (.aload_n 1, 1) := by decide +kernel
theorem dX4_isWord_25 : decode cX4_isWord 25 = .ok (.invokevirtual 222, 3) := by decide +kernel
theorem dX4_isWord_28 : decode cX4_isWord 28 = .ok (.if_icmp .ne 7, 3) := by decide +kernel
theorem dX4_isWord_31 : decode cX4_isWord 31 = .ok (.iconst 1, 1) := by decide +kernel
theorem dX4_isWord_32 : decode cX4_isWord 32 = .ok (.goto 4, 3) := by decide +kernel
theorem dX4_isWord_35 : decode cX4_isWord 35 = .ok (.iconst 0, 1) := by decide +kernel
theorem dX4_isWord_36 : decode cX4_isWord 36 = .ok (.istore_n 2, 1) := by decide +kernel
theorem dX4_isWord_37 : decode cX4_isWord 37 = .ok (.iconst 0, 1) := by decide +kernel
theorem dX4_isWord_38 : decode cX4_isWord 38 = .ok (.istore_n 3, 1) := by decide +kernel
theorem dX4_isWord_39 : decode cX4_isWord 39 = .ok (.iload_n 2, 1) := by decide +kernel
theorem dX4_isWord_40 : decode cX4_isWord 40 = .ok (.ifCond .eq 42, 3) := by decide +kernel
theorem dX4_isWord_43 : decode cX4_isWord 43 = .ok (.iload_n 3, 1) := by decide +kernel
theorem dX4_isWord_44 : decode cX4_isWord 44 = .ok (.aload_n 1, 1) := by decide +kernel
theorem dX4_isWord_45 : decode cX4_isWord 45 = .ok (.invokevirtual 222, 3) := by decide +kernel
theorem dX4_isWord_48 : decode cX4_isWord 48 = .ok (.if_icmp .ge 34, 3) := by decide +kernel
theorem dX4_isWord_51 : decode cX4_isWord 51 = .ok (.aload_n 0, 1) := by decide +kernel
theorem dX4_isWord_52 : decode cX4_isWord 52 = .ok (.getfield 25, 3) := by decide +kernel
theorem dX4_isWord_55 : decode cX4_isWord 55 = .ok (.aload_n 0, 1) := by decide +kernel
theorem dX4_isWord_56 : decode cX4_isWord 56 = .ok (.getfield 205, 3) := by decide +kernel
theorem dX4_isWord_59 : decode cX4_isWord 59 = .ok (.iload_n 3, 1) := by decide +kernel
theorem dX4_isWord_60 : decode cX4_isWord 60 = .ok (.iadd, 1) := by decide +kernel
theorem dX4_isWord_61 : decode cX4_isWord 61 = .ok (.iaload, 1) := by decide +kernel
theorem dX4_isWord_62 : decode cX4_isWord 62 = .ok (.aload_n 1, 1) := by decide +kernel
theorem dX4_isWord_63 : decode cX4_isWord 63 = .ok (.iload_n 3, 1) := by decide +kernel
theorem dX4_isWord_64 : decode cX4_isWord 64 = .ok (.invokevirtual 227, 3) := by decide +kernel
theorem dX4_isWord_67 : decode cX4_isWord 67 = .ok (.if_icmp .ne 7, 3) := by decide +kernel
theorem dX4_isWord_70 : decode cX4_isWord 70 = .ok (.iconst 1, 1) := by decide +kernel
theorem dX4_isWord_71 : decode cX4_isWord 71 = .ok (.goto 4, 3) := by decide +kernel
theorem dX4_isWord_74 : decode cX4_isWord 74 = .ok (.iconst 0, 1) := by decide +kernel
theorem dX4_isWord_75 : decode cX4_isWord 75 = .ok (.istore_n 2, 1) := by decide +kernel
theorem dX4_isWord_76 : decode cX4_isWord 76 = .ok (.iinc 3 1, 3) := by decide +kernel
theorem dX4_isWord_79 : decode cX4_isWord 79 = .ok (.goto (-40), 3) := by decide +kernel
theorem dX4_isWord_82 : decode cX4_isWord 82 = .ok (.iload_n 2, 1) := by decide +kernel
theorem dX4_isWord_83 : decode cX4_isWord 83 = .ok (.ireturn, 1) := by decide +kernel
theorem dX4_takes_0 : decode cX4_takes 0 = .ok (.aload_n 0, 1) := by decide +kernel
theorem dX4_takes_1 : decode cX4_takes 1 = .ok (.aload_n 1, 1) := by decide +kernel
theorem dX4_takes_2 : decode cX4_takes 2 = .ok (.invokevirtual 231, 3) := by decide +kernel
theorem dX4_takes_5 : decode cX4_takes 5 = .ok (.ifCond .ne 5, 3) := by decide +kernel
theorem dX4_takes_8 : decode cX4_takes 8 = .ok (.iconst 0, 1) := by decide +kernel
theorem dX4_takes_9 : decode cX4_takes 9 = .ok (.ireturn, 1) := by decide +kernel
theorem dX4_takes_10 : decode cX4_takes 10 = .ok (.aload_n 0, 1) := by decide +kernel
theorem dX4_takes_11 : decode cX4_takes 11 = .ok (.invokevirtual 235, 3) := by decide +kernel
theorem dX4_takes_14 : decode cX4_takes 14 = .ok (.iconst 1, 1) := by decide +kernel
theorem dX4_takes_15 : decode cX4_takes 15 = .ok (.ireturn, 1) := by decide +kernel
theorem dX4_isSign_0 : decode cX4_isSign 0 = .ok (.aload_n 0, 1) := by decide +kernel
theorem dX4_isSign_1 : decode cX4_isSign 1 = .ok (.getfield 218, 3) := by decide +kernel
theorem dX4_isSign_4 : decode cX4_isSign 4 = .ok (.ifCond .ne 28, 3) := by decide +kernel
theorem dX4_isSign_7 : decode cX4_isSign 7 = .ok (.aload_n 0, 1) := by decide +kernel
theorem dX4_isSign_8 : decode cX4_isSign 8 = .ok (.getfield 215, 3) := by decide +kernel
theorem dX4_isSign_11 : decode cX4_isSign 11 = .ok (.iconst 3, 1) := by decide +kernel
theorem dX4_isSign_12 : decode cX4_isSign 12 = .ok (.if_icmp .ne 20, 3) := by decide +kernel
theorem dX4_isSign_15 : decode cX4_isSign 15 = .ok (.aload_n 0, 1) := by decide +kernel
theorem dX4_isSign_16 : decode cX4_isSign 16 = .ok (.getfield 25, 3) := by decide +kernel
theorem dX4_isSign_19 : decode cX4_isSign 19 = .ok (.aload_n 0, 1) := by decide +kernel
theorem dX4_isSign_20 : decode cX4_isSign 20 = .ok (.getfield 205, 3) := by decide +kernel
theorem dX4_isSign_23 : decode cX4_isSign 23 = .ok (.iaload, 1) := by decide +kernel
theorem dX4_isSign_24 : decode cX4_isSign 24 = .ok (.iload_n 1, 1) := by decide +kernel
theorem dX4_isSign_25 : decode cX4_isSign 25 = .ok (.if_icmp .ne 7, 3) := by decide +kernel
theorem dX4_isSign_28 : decode cX4_isSign 28 = .ok (.iconst 1, 1) := by decide +kernel
theorem dX4_isSign_29 : decode cX4_isSign 29 = .ok (.goto 4, 3) := by decide +kernel
theorem dX4_isSign_32 : decode cX4_isSign 32 = .ok (.iconst 0, 1) := by decide +kernel
theorem dX4_isSign_33 : decode cX4_isSign 33 = .ok (.ireturn, 1) := by decide +kernel
theorem dX4_number_0 : decode cX4_number 0 = .ok (.aload_n 0, 1) := by decide +kernel
theorem dX4_number_1 : decode cX4_number 1 = .ok (.aload_n 0, 1) := by decide +kernel
theorem dX4_number_2 : decode cX4_number 2 = .ok (.getfield 218, 3) := by decide +kernel
theorem dX4_number_5 : decode cX4_number 5 = .ok (.ifCond .ne 30, 3) := by decide +kernel
theorem dX4_number_8 : decode cX4_number 8 = .ok (.iload_n 3, 1) := by decide +kernel
theorem dX4_number_9 : decode cX4_number 9 = .ok (.ifCond .eq 26, 3) := by decide +kernel
theorem dX4_number_12 : decode cX4_number 12 = .ok (.aload_n 0, 1) := by decide +kernel
theorem dX4_number_13 : decode cX4_number 13 = .ok (.getfield 215, 3) := by decide +kernel
theorem dX4_number_16 : decode cX4_number 16 = .ok (.iconst 2, 1) := by decide +kernel
theorem dX4_number_17 : decode cX4_number 17 = .ok (.if_icmp .ne 18, 3) := by decide +kernel
theorem dX4_number_20 : decode cX4_number 20 = .ok (.aload_n 0, 1) := by decide +kernel
theorem dX4_number_21 : decode cX4_number 21 = .ok (.getfield 212, 3) := by decide +kernel
theorem dX4_number_24 : decode cX4_number 24 = .ok (.i2l, 1) := by decide +kernel
theorem dX4_number_25 : decode cX4_number 25 = .ok (.iload_n 1, 1) := by decide +kernel
theorem dX4_number_26 : decode cX4_number 26 = .ok (.i2l, 1) := by decide +kernel
theorem dX4_number_27 : decode cX4_number 27 = .ok (.iload_n 2, 1) := by decide +kernel
theorem dX4_number_28 : decode cX4_number 28 = .ok (.i2l, 1) := by decide +kernel
theorem dX4_number_29 : decode cX4_number 29 = .ok (.invokestatic 45, 3) := by decide +kernel
theorem dX4_number_32 : decode cX4_number 32 = .ok (.ifCond .ne 7, 3) := by decide +kernel
theorem dX4_number_35 : decode cX4_number 35 = .ok (.iconst 1, 1) := by decide +kernel
theorem dX4_number_36 : decode cX4_number 36 = .ok (.goto 4, 3) := by decide +kernel
theorem dX4_number_39 : decode cX4_number 39 = .ok (.iconst 0, 1) := by decide +kernel
theorem dX4_number_40 : decode cX4_number 40 = .ok (.putfield 218, 3) := by decide +kernel
theorem dX4_number_43 : decode cX4_number 43 = .ok (.aload_n 0, 1) := by decide +kernel
theorem dX4_number_44 : decode cX4_number 44 = .ok (.getfield 212, 3) := by decide +kernel
theorem dX4_number_47 : decode cX4_number 47 = .ok (.istore 4, 2) := by decide +kernel
theorem dX4_number_49 : decode cX4_number 49 = .ok (.aload_n 0, 1) := by decide +kernel
theorem dX4_number_50 : decode cX4_number 50 = .ok (.getfield 218, 3) := by decide +kernel
theorem dX4_number_53 : decode cX4_number 53 = .ok (.ifCond .ne 7, 3) := by decide +kernel
theorem dX4_number_56 : decode cX4_number 56 = .ok (.aload_n 0, 1) := by decide +kernel
theorem dX4_number_57 : decode cX4_number 57 = .ok (.invokevirtual 235, 3) := by decide +kernel
theorem dX4_number_60 : decode cX4_number 60 = .ok (.iload 4, 2) := by decide +kernel
theorem dX4_number_62 : decode cX4_number 62 = .ok (.ireturn, 1) := by decide +kernel
theorem dX4_word_0 : decode cX4_word 0 = .ok (.aload_n 0, 1) := by decide +kernel
theorem dX4_word_1 : decode cX4_word 1 = .ok (.aload_n 0, 1) := by decide +kernel
theorem dX4_word_2 : decode cX4_word 2 = .ok (.getfield 218, 3) := by decide +kernel
theorem dX4_word_5 : decode cX4_word 5 = .ok (.ifCond .ne 11, 3) := by decide +kernel
theorem dX4_word_8 : decode cX4_word 8 = .ok (.aload_n 0, 1) := by decide +kernel
theorem dX4_word_9 : decode cX4_word 9 = .ok (.aload_n 1, 1) := by decide +kernel
theorem dX4_word_10 : decode cX4_word 10 = .ok (.invokevirtual 238, 3) := by decide +kernel
theorem dX4_word_13 : decode cX4_word 13 = .ok (.ifCond .ne 7, 3) := by decide +kernel
theorem dX4_word_16 : decode cX4_word 16 = .ok (.iconst 1, 1) := by decide +kernel
theorem dX4_word_17 : decode cX4_word 17 = .ok (.goto 4, 3) := by decide +kernel
theorem dX4_word_20 : decode cX4_word 20 = .ok (.iconst 0, 1) := by decide +kernel
theorem dX4_word_21 : decode cX4_word 21 = .ok (.putfield 218, 3) := by decide +kernel
theorem dX4_word_24 : decode cX4_word 24 = .ok (.return_, 1) := by decide +kernel
theorem dX4_tells_0 : decode cX4_tells 0 = .ok (.aload_n 0, 1) := by decide +kernel
theorem dX4_tells_1 : decode cX4_tells 1 = .ok (.getfield 218, 3) := by decide +kernel
theorem dX4_tells_4 : decode cX4_tells 4 = .ok (.ifCond .ne 10, 3) := by decide +kernel
theorem dX4_tells_7 : decode cX4_tells 7 = .ok (.aload_n 0, 1) := by decide +kernel
theorem dX4_tells_8 : decode cX4_tells 8 = .ok (.getfield 9, 3) := by decide +kernel
theorem dX4_tells_11 : decode cX4_tells 11 = .ok (.iload_n 1, 1) := by decide +kernel
theorem dX4_tells_12 : decode cX4_tells 12 = .ok (.iload_n 2, 1) := by decide +kernel
theorem dX4_tells_13 : decode cX4_tells 13 = .ok (.iastore, 1) := by decide +kernel
theorem dX4_tells_14 : decode cX4_tells 14 = .ok (.return_, 1) := by decide +kernel
theorem dX4_kindHere_0 : decode cX4_kindHere 0 = .ok (.aload_n 0, 1) := by decide +kernel
theorem dX4_kindHere_1 : decode cX4_kindHere 1 = .ok (.ldc 241, 2) := by decide +kernel
theorem dX4_kindHere_3 : decode cX4_kindHere 3 = .ok (.invokevirtual 231, 3) := by decide +kernel
theorem dX4_kindHere_6 : decode cX4_kindHere 6 = .ok (.ifCond .eq 5, 3) := by decide +kernel
theorem dX4_kindHere_9 : decode cX4_kindHere 9 = .ok (.iconst 0, 1) := by decide +kernel
theorem dX4_kindHere_10 : decode cX4_kindHere 10 = .ok (.ireturn, 1) := by decide +kernel
theorem dX4_kindHere_11 : decode cX4_kindHere 11 = .ok (.aload_n 0, 1) := by decide +kernel
theorem dX4_kindHere_12 : decode cX4_kindHere 12 = .ok (.ldc 243, 2) := by decide +kernel
theorem dX4_kindHere_14 : decode cX4_kindHere 14 = .ok (.invokevirtual 231, 3) := by decide +kernel
theorem dX4_kindHere_17 : decode cX4_kindHere 17 = .ok (.ifCond .eq 5, 3) := by decide +kernel
theorem dX4_kindHere_20 : decode cX4_kindHere 20 = .ok (.iconst 1, 1) := by decide +kernel
theorem dX4_kindHere_21 : decode cX4_kindHere 21 = .ok (.ireturn, 1) := by decide +kernel
theorem dX4_kindHere_22 : decode cX4_kindHere 22 = .ok (.aload_n 0, 1) := by decide +kernel
theorem dX4_kindHere_23 : decode cX4_kindHere 23 = .ok (.ldc 245, 2) := by decide +kernel
theorem dX4_kindHere_25 : decode cX4_kindHere 25 = .ok (.invokevirtual 231, 3) := by decide +kernel
theorem dX4_kindHere_28 : decode cX4_kindHere 28 = .ok (.ifCond .eq 5, 3) := by decide +kernel
theorem dX4_kindHere_31 : decode cX4_kindHere 31 = .ok (.iconst 2, 1) := by decide +kernel
theorem dX4_kindHere_32 : decode cX4_kindHere 32 = .ok (.ireturn, 1) := by decide +kernel
theorem dX4_kindHere_33 : decode cX4_kindHere 33 = .ok (.aload_n 0, 1) := by decide +kernel
theorem dX4_kindHere_34 : decode cX4_kindHere 34 = .ok (.ldc 247, 2) := by decide +kernel
theorem dX4_kindHere_36 : decode cX4_kindHere 36 = .ok (.invokevirtual 231, 3) := by decide +kernel
theorem dX4_kindHere_39 : decode cX4_kindHere 39 = .ok (.ifCond .eq 5, 3) := by decide +kernel
theorem dX4_kindHere_42 : decode cX4_kindHere 42 = .ok (.iconst 3, 1) := by decide +kernel
theorem dX4_kindHere_43 : decode cX4_kindHere 43 = .ok (.ireturn, 1) := by decide +kernel
theorem dX4_kindHere_44 : decode cX4_kindHere 44 = .ok (.aload_n 0, 1) := by decide +kernel
theorem dX4_kindHere_45 : decode cX4_kindHere 45 = .ok (.ldc 249, 2) := by decide +kernel
theorem dX4_kindHere_47 : decode cX4_kindHere 47 = .ok (.invokevirtual 231, 3) := by decide +kernel
theorem dX4_kindHere_50 : decode cX4_kindHere 50 = .ok (.ifCond .eq 5, 3) := by decide +kernel
theorem dX4_kindHere_53 : decode cX4_kindHere 53 = .ok (.iconst 4, 1) := by decide +kernel
theorem dX4_kindHere_54 : decode cX4_kindHere 54 = .ok (.ireturn, 1) := by decide +kernel
theorem dX4_kindHere_55 : decode cX4_kindHere 55 = .ok (.aload_n 0, 1) := by decide +kernel
theorem dX4_kindHere_56 : decode cX4_kindHere 56 = .ok (.ldc 251, 2) := by decide +kernel
theorem dX4_kindHere_58 : decode cX4_kindHere 58 = .ok (.invokevirtual 231, 3) := by decide +kernel
theorem dX4_kindHere_61 : decode cX4_kindHere 61 = .ok (.ifCond .eq 7, 3) := by decide +kernel
theorem dX4_kindHere_64 : decode cX4_kindHere 64 = .ok (.iconst 5, 1) := by decide +kernel
theorem dX4_kindHere_65 : decode cX4_kindHere 65 = .ok (.goto 18, 3) := by decide +kernel
theorem dX4_kindHere_68 : decode cX4_kindHere 68 = .ok (.aload_n 0, 1) := by decide +kernel
theorem dX4_kindHere_69 : decode cX4_kindHere 69 = .ok (.ldc 253, 2) := by decide +kernel
theorem dX4_kindHere_71 : decode cX4_kindHere 71 = .ok (.invokevirtual 231, 3) := by decide +kernel
theorem dX4_kindHere_74 : decode cX4_kindHere 74 = .ok (.ifCond .eq 8, 3) := by decide +kernel
theorem dX4_kindHere_77 : decode cX4_kindHere 77 = .ok (.bipush 6, 2) := by decide +kernel
theorem dX4_kindHere_79 : decode cX4_kindHere 79 = .ok (.goto 4, 3) := by decide +kernel
theorem dX4_kindHere_82 : decode cX4_kindHere 82 = .ok (.iconst (-1), 1) := by decide +kernel
theorem dX4_kindHere_83 : decode cX4_kindHere 83 = .ok (.ireturn, 1) := by decide +kernel
theorem dX4_personItem_0 : decode cX4_personItem 0 = .ok (.aload_n 0, 1) := by decide +kernel
theorem dX4_personItem_1 : decode cX4_personItem 1 = .ok (.aload_n 0, 1) := by decide +kernel
theorem dX4_personItem_2 : decode cX4_personItem 2 = .ok (.getfield 218, 3) := by decide +kernel
theorem dX4_personItem_5 : decode cX4_personItem 5 = .ok (.ifCond .ne 19, 3) := by decide +kernel
theorem dX4_personItem_8 : decode cX4_personItem 8 = .ok (.iload_n 1, 1) := by decide +kernel
theorem dX4_personItem_9 : decode cX4_personItem 9 = .ok (.ifCond .lt 15, 3) := by decide +kernel
theorem dX4_personItem_12 : decode cX4_personItem 12 = .ok (.aload_n 0, 1) := by decide +kernel
theorem dX4_personItem_13 : decode cX4_personItem 13 = .ok (.getfield 9, 3) := by decide +kernel
theorem dX4_personItem_16 : decode cX4_personItem 16 = .ok (.bipush 6, 2) := by decide +kernel
theorem dX4_personItem_18 : decode cX4_personItem 18 = .ok (.iaload, 1) := by decide +kernel
theorem dX4_personItem_19 : decode cX4_personItem 19 = .ok (.bipush 12, 2) := by decide +kernel
theorem dX4_personItem_21 : decode cX4_personItem 21 = .ok (.if_icmp .ne 7, 3) := by decide +kernel
theorem dX4_personItem_24 : decode cX4_personItem 24 = .ok (.iconst 1, 1) := by decide +kernel
theorem dX4_personItem_25 : decode cX4_personItem 25 = .ok (.goto 4, 3) := by decide +kernel
theorem dX4_personItem_28 : decode cX4_personItem 28 = .ok (.iconst 0, 1) := by decide +kernel
theorem dX4_personItem_29 : decode cX4_personItem 29 = .ok (.putfield 218, 3) := by decide +kernel
theorem dX4_personItem_32 : decode cX4_personItem 32 = .ok (.aload_n 0, 1) := by decide +kernel
theorem dX4_personItem_33 : decode cX4_personItem 33 = .ok (.getfield 218, 3) := by decide +kernel
theorem dX4_personItem_36 : decode cX4_personItem 36 = .ok (.ifCond .eq 4, 3) := by decide +kernel
theorem dX4_personItem_39 : decode cX4_personItem 39 = .ok (.return_, 1) := by decide +kernel
theorem dX4_personItem_40 : decode cX4_personItem 40 = .ok (.aload_n 0, 1) := by decide +kernel
theorem dX4_personItem_41 : decode cX4_personItem 41 = .ok (.invokevirtual 235, 3) := by decide +kernel
theorem dX4_personItem_44 : decode cX4_personItem 44 = .ok (.aload_n 0, 1) := by decide +kernel
theorem dX4_personItem_45 : decode cX4_personItem 45 = .ok (.ldc 255, 2) := by decide +kernel
theorem dX4_personItem_47 : decode cX4_personItem 47 = .ok (.invokevirtual 256, 3) := by decide +kernel
theorem dX4_personItem_50 : decode cX4_personItem 50 = .ok (.aload_n 0, 1) := by decide +kernel
theorem dX4_personItem_51 : decode cX4_personItem 51 = .ok (.iconst 0, 1) := by decide +kernel
theorem dX4_personItem_52 : decode cX4_personItem 52 = .ok (.bipush 7, 2) := by decide +kernel
theorem dX4_personItem_54 : decode cX4_personItem 54 = .ok (.aload_n 0, 1) := by decide +kernel
theorem dX4_personItem_55 : decode cX4_personItem 55 = .ok (.getfield 212, 3) := by decide +kernel
theorem dX4_personItem_58 : decode cX4_personItem 58 = .ok (.invokestatic 61, 3) := by decide +kernel
theorem dX4_personItem_61 : decode cX4_personItem 61 = .ok (.ifCond .eq 14, 3) := by decide +kernel
theorem dX4_personItem_64 : decode cX4_personItem 64 = .ok (.aload_n 0, 1) := by decide +kernel
theorem dX4_personItem_65 : decode cX4_personItem 65 = .ok (.aload_n 0, 1) := by decide +kernel
theorem dX4_personItem_66 : decode cX4_personItem 66 = .ok (.getfield 212, 3) := by decide +kernel
theorem dX4_personItem_69 : decode cX4_personItem 69 = .ok (.invokevirtual 94, 3) := by decide +kernel
theorem dX4_personItem_72 : decode cX4_personItem 72 = .ok (.ifCond .eq 7, 3) := by decide +kernel
theorem dX4_personItem_75 : decode cX4_personItem 75 = .ok (.iconst 1, 1) := by decide +kernel
theorem dX4_personItem_76 : decode cX4_personItem 76 = .ok (.goto 4, 3) := by decide +kernel
theorem dX4_personItem_79 : decode cX4_personItem 79 = .ok (.iconst 0, 1) := by decide +kernel
theorem dX4_personItem_80 : decode cX4_personItem 80 = .ok (.invokevirtual 260, 3) := by decide +kernel
theorem dX4_personItem_83 : decode cX4_personItem 83 = .ok (.istore_n 2, 1) := by decide +kernel
theorem dX4_personItem_84 : decode cX4_personItem 84 = .ok (.aload_n 0, 1) := by decide +kernel
theorem dX4_personItem_85 : decode cX4_personItem 85 = .ok (.ldc_w 263, 3) := by decide +kernel
theorem dX4_personItem_88 : decode cX4_personItem 88 = .ok (.invokevirtual 238, 3) := by decide +kernel
theorem dX4_personItem_91 : decode cX4_personItem 91 = .ok (.ifCond .eq 14, 3) := by decide +kernel
theorem dX4_personItem_94 : decode cX4_personItem 94 = .ok (.aload_n 0, 1) := by decide +kernel
theorem dX4_personItem_95 : decode cX4_personItem 95 = .ok (.iconst 0, 1) := by decide +kernel
theorem dX4_personItem_96 : decode cX4_personItem 96 = .ok (.bipush 99, 2) := by decide +kernel
theorem dX4_personItem_98 : decode cX4_personItem 98 = .ok (.iconst 1, 1) := by decide +kernel
theorem dX4_personItem_99 : decode cX4_personItem 99 = .ok (.invokevirtual 260, 3) := by decide +kernel
theorem dX4_personItem_102 : decode cX4_personItem 102 = .ok (.goto 5, 3) := by decide +kernel
theorem dX4_personItem_105 : decode cX4_personItem 105 = .ok (.bipush 30, 2) := by decide +kernel
theorem dX4_personItem_107 : decode cX4_personItem 107 = .ok (.istore_n 3, 1) := by decide +kernel
theorem dX4_personItem_108 : decode cX4_personItem 108 = .ok (.aload_n 0, 1) := by decide +kernel
theorem dX4_personItem_109 : decode cX4_personItem 109 = .ok (.ldc_w 265, 3) := by decide +kernel
theorem dX4_personItem_112 : decode cX4_personItem 112 = .ok (.invokevirtual 238, 3) := by decide +kernel
theorem dX4_personItem_115 : decode cX4_personItem 115 = .ok (.ifCond .eq 13, 3) := by decide +kernel
theorem dX4_personItem_118 : decode cX4_personItem 118 = .ok (.aload_n 0, 1) := by decide +kernel
theorem dX4_personItem_119 : decode cX4_personItem 119 = .ok (.iconst 0, 1) := by decide +kernel
theorem dX4_personItem_120 : decode cX4_personItem 120 = .ok (.iconst 3, 1) := by decide +kernel
theorem dX4_personItem_121 : decode cX4_personItem 121 = .ok (.iconst 1, 1) := by decide +kernel
theorem dX4_personItem_122 : decode cX4_personItem 122 = .ok (.invokevirtual 260, 3) := by decide +kernel
theorem dX4_personItem_125 : decode cX4_personItem 125 = .ok (.goto 4, 3) := by decide +kernel
theorem dX4_personItem_128 : decode cX4_personItem 128 = .ok (.iconst 0, 1) := by decide +kernel
theorem dX4_personItem_129 : decode cX4_personItem 129 = .ok (.istore 4, 2) := by decide +kernel
theorem dX4_personItem_131 : decode cX4_personItem 131 = .ok (.aload_n 0, 1) := by decide +kernel
theorem dX4_personItem_132 : decode cX4_personItem 132 = .ok (.ldc_w 267, 3) := by decide +kernel
theorem dX4_personItem_135 : decode cX4_personItem 135 = .ok (.invokevirtual 238, 3) := by decide +kernel
theorem dX4_personItem_138 : decode cX4_personItem 138 = .ok (.ifCond .eq 15, 3) := by decide +kernel
theorem dX4_personItem_141 : decode cX4_personItem 141 = .ok (.aload_n 0, 1) := by decide +kernel
theorem dX4_personItem_142 : decode cX4_personItem 142 = .ok (.iconst 0, 1) := by decide +kernel
theorem dX4_personItem_143 : decode cX4_personItem 143 = .ok (.sipush 9999, 3) := by decide +kernel
theorem dX4_personItem_146 : decode cX4_personItem 146 = .ok (.iconst 1, 1) := by decide +kernel
theorem dX4_personItem_147 : decode cX4_personItem 147 = .ok (.invokevirtual 260, 3) := by decide +kernel
theorem dX4_personItem_150 : decode cX4_personItem 150 = .ok (.goto 5, 3) := by decide +kernel
theorem dX4_personItem_153 : decode cX4_personItem 153 = .ok (.bipush 100, 2) := by decide +kernel
theorem dX4_personItem_155 : decode cX4_personItem 155 = .ok (.istore 5, 2) := by decide +kernel
theorem dX4_personItem_157 : decode cX4_personItem 157 = .ok (.aload_n 0, 1) := by decide +kernel
theorem dX4_personItem_158 : decode cX4_personItem 158 = .ok (.ldc_w 269, 3) := by decide +kernel
theorem dX4_personItem_161 : decode cX4_personItem 161 = .ok (.invokevirtual 238, 3) := by decide +kernel
theorem dX4_personItem_164 : decode cX4_personItem 164 = .ok (.ifCond .eq 21, 3) := by decide +kernel
theorem dX4_personItem_167 : decode cX4_personItem 167 = .ok (.aload_n 0, 1) := by decide +kernel
theorem dX4_personItem_168 : decode cX4_personItem 168 = .ok (.iconst 0, 1) := by decide +kernel
theorem dX4_personItem_169 : decode cX4_personItem 169 = .ok (.aload_n 0, 1) := by decide +kernel
theorem dX4_personItem_170 : decode cX4_personItem 170 = .ok (.getfield 9, 3) := by decide +kernel
theorem dX4_personItem_173 : decode cX4_personItem 173 = .ok (.bipush 6, 2) := by decide +kernel
theorem dX4_personItem_175 : decode cX4_personItem 175 = .ok (.iaload, 1) := by decide +kernel
theorem dX4_personItem_176 : decode cX4_personItem 176 = .ok (.iconst 1, 1) := by decide +kernel
theorem dX4_personItem_177 : decode cX4_personItem 177 = .ok (.isub, 1) := by decide +kernel
theorem dX4_personItem_178 : decode cX4_personItem 178 = .ok (.iconst 1, 1) := by decide +kernel
theorem dX4_personItem_179 : decode cX4_personItem 179 = .ok (.invokevirtual 260, 3) := by decide +kernel
theorem dX4_personItem_182 : decode cX4_personItem 182 = .ok (.goto 4, 3) := by decide +kernel
theorem dX4_personItem_185 : decode cX4_personItem 185 = .ok (.iconst (-1), 1) := by decide +kernel
theorem dX4_personItem_186 : decode cX4_personItem 186 = .ok (.istore 6, 2) := by decide +kernel
theorem dX4_personItem_188 : decode cX4_personItem 188 = .ok (.aload_n 0, 1) := by decide +kernel
theorem dX4_personItem_189 : decode cX4_personItem 189 = .ok (.getfield 218, 3) := by decide +kernel
theorem dX4_personItem_192 : decode cX4_personItem 192 = .ok (.ifCond .eq 4, 3) := by decide +kernel
theorem dX4_personItem_195 : decode cX4_personItem 195 = .ok (.return_, 1) := by decide +kernel
theorem dX4_personItem_196 : decode cX4_personItem 196 = .ok (.aload_n 0, 1) := by decide +kernel
theorem dX4_personItem_197 : decode cX4_personItem 197 = .ok (.iload_n 1, 1) := by decide +kernel
theorem dX4_personItem_198 : decode cX4_personItem 198 = .ok (.iload_n 2, 1) := by decide +kernel
theorem dX4_personItem_199 : decode cX4_personItem 199 = .ok (.invokevirtual 98, 3) := by decide +kernel
theorem dX4_personItem_202 : decode cX4_personItem 202 = .ok (.istore 7, 2) := by decide +kernel
theorem dX4_personItem_204 : decode cX4_personItem 204 = .ok (.aload_n 0, 1) := by decide +kernel
theorem dX4_personItem_205 : decode cX4_personItem 205 = .ok (.iload 7, 2) := by decide +kernel
theorem dX4_personItem_207 : decode cX4_personItem 207 = .ok (.iconst 2, 1) := by decide +kernel
theorem dX4_personItem_208 : decode cX4_personItem 208 = .ok (.iload_n 3, 1) := by decide +kernel
theorem dX4_personItem_209 : decode cX4_personItem 209 = .ok (.invokevirtual 87, 3) := by decide +kernel
theorem dX4_personItem_212 : decode cX4_personItem 212 = .ok (.aload_n 0, 1) := by decide +kernel
theorem dX4_personItem_213 : decode cX4_personItem 213 = .ok (.iload 7, 2) := by decide +kernel
theorem dX4_personItem_215 : decode cX4_personItem 215 = .ok (.iconst 3, 1) := by decide +kernel
theorem dX4_personItem_216 : decode cX4_personItem 216 = .ok (.iload 4, 2) := by decide +kernel
theorem dX4_personItem_218 : decode cX4_personItem 218 = .ok (.invokevirtual 87, 3) := by decide +kernel
theorem dX4_personItem_221 : decode cX4_personItem 221 = .ok (.aload_n 0, 1) := by decide +kernel
theorem dX4_personItem_222 : decode cX4_personItem 222 = .ok (.iload 7, 2) := by decide +kernel
theorem dX4_personItem_224 : decode cX4_personItem 224 = .ok (.iconst 4, 1) := by decide +kernel
theorem dX4_personItem_225 : decode cX4_personItem 225 = .ok (.iload 5, 2) := by decide +kernel
theorem dX4_personItem_227 : decode cX4_personItem 227 = .ok (.invokevirtual 87, 3) := by decide +kernel
theorem dX4_personItem_230 : decode cX4_personItem 230 = .ok (.aload_n 0, 1) := by decide +kernel
theorem dX4_personItem_231 : decode cX4_personItem 231 = .ok (.iload 7, 2) := by decide +kernel
theorem dX4_personItem_233 : decode cX4_personItem 233 = .ok (.iconst 5, 1) := by decide +kernel
theorem dX4_personItem_234 : decode cX4_personItem 234 = .ok (.iload 6, 2) := by decide +kernel
theorem dX4_personItem_236 : decode cX4_personItem 236 = .ok (.invokevirtual 87, 3) := by decide +kernel
theorem dX4_personItem_239 : decode cX4_personItem 239 = .ok (.return_, 1) := by decide +kernel
theorem dX4_rankItem_0 : decode cX4_rankItem 0 = .ok (.aload_n 0, 1) := by decide +kernel
theorem dX4_rankItem_1 : decode cX4_rankItem 1 = .ok (.iconst 0, 1) := by decide +kernel
theorem dX4_rankItem_2 : decode cX4_rankItem 2 = .ok (.bipush 7, 2) := by decide +kernel
theorem dX4_rankItem_4 : decode cX4_rankItem 4 = .ok (.iconst 1, 1) := by decide +kernel
theorem dX4_rankItem_5 : decode cX4_rankItem 5 = .ok (.invokevirtual 260, 3) := by decide +kernel
theorem dX4_rankItem_8 : decode cX4_rankItem 8 = .ok (.istore_n 1, 1) := by decide +kernel
theorem dX4_rankItem_9 : decode cX4_rankItem 9 = .ok (.aload_n 0, 1) := by decide +kernel
theorem dX4_rankItem_10 : decode cX4_rankItem 10 = .ok (.ldc_w 271, 3) := by decide +kernel
theorem dX4_rankItem_13 : decode cX4_rankItem 13 = .ok (.invokevirtual 256, 3) := by decide +kernel
theorem dX4_rankItem_16 : decode cX4_rankItem 16 = .ok (.aload_n 0, 1) := by decide +kernel
theorem dX4_rankItem_17 : decode cX4_rankItem 17 = .ok (.getfield 218, 3) := by decide +kernel
theorem dX4_rankItem_20 : decode cX4_rankItem 20 = .ok (.ifCond .eq 7, 3) := by decide +kernel
theorem dX4_rankItem_23 : decode cX4_rankItem 23 = .ok (.iconst 0, 1) := by decide +kernel
theorem dX4_rankItem_24 : decode cX4_rankItem 24 = .ok (.goto 11, 3) := by decide +kernel
theorem dX4_rankItem_27 : decode cX4_rankItem 27 = .ok (.aload_n 0, 1) := by decide +kernel
theorem dX4_rankItem_28 : decode cX4_rankItem 28 = .ok (.iload_n 1, 1) := by decide +kernel
theorem dX4_rankItem_29 : decode cX4_rankItem 29 = .ok (.invokevirtual 55, 3) := by decide +kernel
theorem dX4_rankItem_32 : decode cX4_rankItem 32 = .ok (.invokestatic 58, 3) := by decide +kernel
theorem dX4_rankItem_35 : decode cX4_rankItem 35 = .ok (.istore_n 2, 1) := by decide +kernel
theorem dX4_rankItem_36 : decode cX4_rankItem 36 = .ok (.aload_n 0, 1) := by decide +kernel
theorem dX4_rankItem_37 : decode cX4_rankItem 37 = .ok (.iload_n 2, 1) := by decide +kernel
theorem dX4_rankItem_38 : decode cX4_rankItem 38 = .ok (.iconst 4, 1) := by decide +kernel
theorem dX4_rankItem_39 : decode cX4_rankItem 39 = .ok (.iconst 1, 1) := by decide +kernel
theorem dX4_rankItem_40 : decode cX4_rankItem 40 = .ok (.invokevirtual 260, 3) := by decide +kernel
theorem dX4_rankItem_43 : decode cX4_rankItem 43 = .ok (.istore_n 3, 1) := by decide +kernel
theorem dX4_rankItem_44 : decode cX4_rankItem 44 = .ok (.aload_n 0, 1) := by decide +kernel
theorem dX4_rankItem_45 : decode cX4_rankItem 45 = .ok (.getfield 218, 3) := by decide +kernel
theorem dX4_rankItem_48 : decode cX4_rankItem 48 = .ok (.ifCond .ne 13, 3) := by decide +kernel
theorem dX4_rankItem_51 : decode cX4_rankItem 51 = .ok (.aload_n 0, 1) := by decide +kernel
theorem dX4_rankItem_52 : decode cX4_rankItem 52 = .ok (.getfield 9, 3) := by decide +kernel
theorem dX4_rankItem_55 : decode cX4_rankItem 55 = .ok (.bipush 7, 2) := by decide +kernel
theorem dX4_rankItem_57 : decode cX4_rankItem 57 = .ok (.iload_n 1, 1) := by decide +kernel
theorem dX4_rankItem_58 : decode cX4_rankItem 58 = .ok (.iadd, 1) := by decide +kernel
theorem dX4_rankItem_59 : decode cX4_rankItem 59 = .ok (.iload_n 3, 1) := by decide +kernel
theorem dX4_rankItem_60 : decode cX4_rankItem 60 = .ok (.iastore, 1) := by decide +kernel
theorem dX4_rankItem_61 : decode cX4_rankItem 61 = .ok (.return_, 1) := by decide +kernel
theorem dX4_item_0 : decode cX4_item 0 = .ok (.aload_n 0, 1) := by decide +kernel
theorem dX4_item_1 : decode cX4_item 1 = .ok (.ldc_w 273, 3) := by decide +kernel
theorem dX4_item_4 : decode cX4_item 4 = .ok (.invokevirtual 238, 3) := by decide +kernel
theorem dX4_item_7 : decode cX4_item 7 = .ok (.ifCond .eq 10, 3) := by decide +kernel
theorem dX4_item_10 : decode cX4_item 10 = .ok (.aload_n 0, 1) := by decide +kernel
theorem dX4_item_11 : decode cX4_item 11 = .ok (.invokevirtual 275, 3) := by decide +kernel
theorem dX4_item_14 : decode cX4_item 14 = .ok (.goto 88, 3) := by decide +kernel
theorem dX4_item_17 : decode cX4_item 17 = .ok (.aload_n 0, 1) := by decide +kernel
theorem dX4_item_18 : decode cX4_item 18 = .ok (.ldc_w 278, 3) := by decide +kernel
theorem dX4_item_21 : decode cX4_item 21 = .ok (.invokevirtual 238, 3) := by decide +kernel
theorem dX4_item_24 : decode cX4_item 24 = .ok (.ifCond .eq 18, 3) := by decide +kernel
theorem dX4_item_27 : decode cX4_item 27 = .ok (.aload_n 0, 1) := by decide +kernel
theorem dX4_item_28 : decode cX4_item 28 = .ok (.iconst 1, 1) := by decide +kernel
theorem dX4_item_29 : decode cX4_item 29 = .ok (.aload_n 0, 1) := by decide +kernel
theorem dX4_item_30 : decode cX4_item 30 = .ok (.iconst 0, 1) := by decide +kernel
theorem dX4_item_31 : decode cX4_item 31 = .ok (.iconst 2, 1) := by decide +kernel
theorem dX4_item_32 : decode cX4_item 32 = .ok (.iconst 1, 1) := by decide +kernel
theorem dX4_item_33 : decode cX4_item 33 = .ok (.invokevirtual 260, 3) := by decide +kernel
theorem dX4_item_36 : decode cX4_item 36 = .ok (.invokevirtual 280, 3) := by decide +kernel
theorem dX4_item_39 : decode cX4_item 39 = .ok (.goto 63, 3) := by decide +kernel
theorem dX4_item_42 : decode cX4_item 42 = .ok (.aload_n 0, 1) := by decide +kernel
theorem dX4_item_43 : decode cX4_item 43 = .ok (.ldc_w 283, 3) := by decide +kernel
theorem dX4_item_46 : decode cX4_item 46 = .ok (.invokevirtual 238, 3) := by decide +kernel
theorem dX4_item_49 : decode cX4_item 49 = .ok (.ifCond .eq 18, 3) := by decide +kernel
theorem dX4_item_52 : decode cX4_item 52 = .ok (.aload_n 0, 1) := by decide +kernel
theorem dX4_item_53 : decode cX4_item 53 = .ok (.iconst 2, 1) := by decide +kernel
theorem dX4_item_54 : decode cX4_item 54 = .ok (.aload_n 0, 1) := by decide +kernel
theorem dX4_item_55 : decode cX4_item 55 = .ok (.iconst 1, 1) := by decide +kernel
theorem dX4_item_56 : decode cX4_item 56 = .ok (.iconst 5, 1) := by decide +kernel
theorem dX4_item_57 : decode cX4_item 57 = .ok (.iconst 1, 1) := by decide +kernel
theorem dX4_item_58 : decode cX4_item 58 = .ok (.invokevirtual 260, 3) := by decide +kernel
theorem dX4_item_61 : decode cX4_item 61 = .ok (.invokevirtual 280, 3) := by decide +kernel
theorem dX4_item_64 : decode cX4_item 64 = .ok (.goto 38, 3) := by decide +kernel
theorem dX4_item_67 : decode cX4_item 67 = .ok (.aload_n 0, 1) := by decide +kernel
theorem dX4_item_68 : decode cX4_item 68 = .ok (.ldc_w 285, 3) := by decide +kernel
theorem dX4_item_71 : decode cX4_item 71 = .ok (.invokevirtual 238, 3) := by decide +kernel
theorem dX4_item_74 : decode cX4_item 74 = .ok (.ifCond .eq 20, 3) := by decide +kernel
theorem dX4_item_77 : decode cX4_item 77 = .ok (.aload_n 0, 1) := by decide +kernel
theorem dX4_item_78 : decode cX4_item 78 = .ok (.iconst 3, 1) := by decide +kernel
theorem dX4_item_79 : decode cX4_item 79 = .ok (.aload_n 0, 1) := by decide +kernel
theorem dX4_item_80 : decode cX4_item 80 = .ok (.iconst 0, 1) := by decide +kernel
theorem dX4_item_81 : decode cX4_item 81 = .ok (.sipush 999, 3) := by decide +kernel
theorem dX4_item_84 : decode cX4_item 84 = .ok (.iconst 1, 1) := by decide +kernel
theorem dX4_item_85 : decode cX4_item 85 = .ok (.invokevirtual 260, 3) := by decide +kernel
theorem dX4_item_88 : decode cX4_item 88 = .ok (.invokevirtual 280, 3) := by decide +kernel
theorem dX4_item_91 : decode cX4_item 91 = .ok (.goto 11, 3) := by decide +kernel
theorem dX4_item_94 : decode cX4_item 94 = .ok (.aload_n 0, 1) := by decide +kernel
theorem dX4_item_95 : decode cX4_item 95 = .ok (.aload_n 0, 1) := by decide +kernel
theorem dX4_item_96 : decode cX4_item 96 = .ok (.invokevirtual 287, 3) := by decide +kernel
theorem dX4_item_99 : decode cX4_item 99 = .ok (.invokevirtual 290, 3) := by decide +kernel
theorem dX4_item_102 : decode cX4_item 102 = .ok (.return_, 1) := by decide +kernel
theorem dX4_text_0 : decode cX4_text 0 = .ok (.aload_n 0, 1) := by decide +kernel
theorem dX4_text_1 : decode cX4_text 1 = .ok (.getfield 9, 3) := by decide +kernel
theorem dX4_text_4 : decode cX4_text 4 = .ok (.aload_n 0, 1) := by decide +kernel
theorem dX4_text_5 : decode cX4_text 5 = .ok (.getfield 16, 3) := by decide +kernel
theorem dX4_text_8 : decode cX4_text 8 = .ok (.invokestatic 165, 3) := by decide +kernel
theorem dX4_text_11 : decode cX4_text 11 = .ok (.aload_n 0, 1) := by decide +kernel
theorem dX4_text_12 : decode cX4_text 12 = .ok (.iconst 0, 1) := by decide +kernel
theorem dX4_text_13 : decode cX4_text 13 = .ok (.putfield 202, 3) := by decide +kernel
theorem dX4_text_16 : decode cX4_text 16 = .ok (.aload_n 0, 1) := by decide +kernel
theorem dX4_text_17 : decode cX4_text 17 = .ok (.iconst 0, 1) := by decide +kernel
theorem dX4_text_18 : decode cX4_text 18 = .ok (.putfield 218, 3) := by decide +kernel
theorem dX4_text_21 : decode cX4_text 21 = .ok (.aload_n 0, 1) := by decide +kernel
theorem dX4_text_22 : decode cX4_text 22 = .ok (.invokevirtual 235, 3) := by decide +kernel
theorem dX4_text_25 : decode cX4_text 25 = .ok (.iconst 0, 1) := by decide +kernel
theorem dX4_text_26 : decode cX4_text 26 = .ok (.istore_n 1, 1) := by decide +kernel
theorem dX4_text_27 : decode cX4_text 27 = .ok (.iconst 1, 1) := by decide +kernel
theorem dX4_text_28 : decode cX4_text 28 = .ok (.istore_n 2, 1) := by decide +kernel
theorem dX4_text_29 : decode cX4_text 29 = .ok (.iload_n 2, 1) := by decide +kernel
theorem dX4_text_30 : decode cX4_text 30 = .ok (.ifCond .eq 28, 3) := by decide +kernel
theorem dX4_text_33 : decode cX4_text 33 = .ok (.aload_n 0, 1) := by decide +kernel
theorem dX4_text_34 : decode cX4_text 34 = .ok (.invokevirtual 293, 3) := by decide +kernel
theorem dX4_text_37 : decode cX4_text 37 = .ok (.iinc 1 1, 3) := by decide +kernel
theorem dX4_text_40 : decode cX4_text 40 = .ok (.aload_n 0, 1) := by decide +kernel
theorem dX4_text_41 : decode cX4_text 41 = .ok (.bipush 59, 2) := by decide +kernel
theorem dX4_text_43 : decode cX4_text 43 = .ok (.invokevirtual 296, 3) := by decide +kernel
theorem dX4_text_46 : decode cX4_text 46 = .ok (.istore_n 2, 1) := by decide +kernel
theorem dX4_text_47 : decode cX4_text 47 = .ok (.iload_n 2, 1) := by decide +kernel
theorem dX4_text_48 : decode cX4_text 48 = .ok (.ifCond .eq (-19), 3) := by decide +kernel
theorem dX4_text_51 : decode cX4_text 51 = .ok (.aload_n 0, 1) := by decide +kernel
theorem dX4_text_52 : decode cX4_text 52 = .ok (.invokevirtual 235, 3) := by decide +kernel
theorem dX4_text_55 : decode cX4_text 55 = .ok (.goto (-26), 3) := by decide +kernel
theorem dX4_text_58 : decode cX4_text 58 = .ok (.aload_n 0, 1) := by decide +kernel
theorem dX4_text_59 : decode cX4_text 59 = .ok (.aload_n 0, 1) := by decide +kernel
theorem dX4_text_60 : decode cX4_text 60 = .ok (.getfield 218, 3) := by decide +kernel
theorem dX4_text_63 : decode cX4_text 63 = .ok (.ifCond .ne 10, 3) := by decide +kernel
theorem dX4_text_66 : decode cX4_text 66 = .ok (.aload_n 0, 1) := by decide +kernel
theorem dX4_text_67 : decode cX4_text 67 = .ok (.getfield 215, 3) := by decide +kernel
theorem dX4_text_70 : decode cX4_text 70 = .ok (.ifCond .eq 7, 3) := by decide +kernel
theorem dX4_text_73 : decode cX4_text 73 = .ok (.iconst 1, 1) := by decide +kernel
theorem dX4_text_74 : decode cX4_text 74 = .ok (.goto 4, 3) := by decide +kernel
theorem dX4_text_77 : decode cX4_text 77 = .ok (.iconst 0, 1) := by decide +kernel
theorem dX4_text_78 : decode cX4_text 78 = .ok (.putfield 218, 3) := by decide +kernel
theorem dX4_text_81 : decode cX4_text 81 = .ok (.aload_n 0, 1) := by decide +kernel
theorem dX4_text_82 : decode cX4_text 82 = .ok (.getfield 205, 3) := by decide +kernel
theorem dX4_text_85 : decode cX4_text 85 = .ok (.istore_n 3, 1) := by decide +kernel
theorem dX4_text_86 : decode cX4_text 86 = .ok (.aload_n 0, 1) := by decide +kernel
theorem dX4_text_87 : decode cX4_text 87 = .ok (.iconst 0, 1) := by decide +kernel
theorem dX4_text_88 : decode cX4_text 88 = .ok (.putfield 198, 3) := by decide +kernel
theorem dX4_text_91 : decode cX4_text 91 = .ok (.aload_n 0, 1) := by decide +kernel
theorem dX4_text_92 : decode cX4_text 92 = .ok (.getfield 218, 3) := by decide +kernel
theorem dX4_text_95 : decode cX4_text 95 = .ok (.ifCond .ne 5, 3) := by decide +kernel
theorem dX4_text_98 : decode cX4_text 98 = .ok (.iload_n 1, 1) := by decide +kernel
theorem dX4_text_99 : decode cX4_text 99 = .ok (.ireturn, 1) := by decide +kernel
theorem dX4_text_100 : decode cX4_text 100 = .ok (.aload_n 0, 1) := by decide +kernel
theorem dX4_text_101 : decode cX4_text 101 = .ok (.getfield 16, 3) := by decide +kernel
theorem dX4_text_104 : decode cX4_text 104 = .ok (.aload_n 0, 1) := by decide +kernel
theorem dX4_text_105 : decode cX4_text 105 = .ok (.getfield 9, 3) := by decide +kernel
theorem dX4_text_108 : decode cX4_text 108 = .ok (.invokestatic 165, 3) := by decide +kernel
theorem dX4_text_111 : decode cX4_text 111 = .ok (.iconst (-1), 1) := by decide +kernel
theorem dX4_text_112 : decode cX4_text 112 = .ok (.iload_n 3, 1) := by decide +kernel
theorem dX4_text_113 : decode cX4_text 113 = .ok (.isub, 1) := by decide +kernel
theorem dX4_text_114 : decode cX4_text 114 = .ok (.ireturn, 1) := by decide +kernel
theorem dX4_hold_0 : decode cX4_hold 0 = .ok (.iload_n 1, 1) := by decide +kernel
theorem dX4_hold_1 : decode cX4_hold 1 = .ok (.i2l, 1) := by decide +kernel
theorem dX4_hold_2 : decode cX4_hold 2 = .ok (.lconst 0, 1) := by decide +kernel
theorem dX4_hold_3 : decode cX4_hold 3 = .ok (.ldc2_w 299, 3) := by decide +kernel
theorem dX4_hold_6 : decode cX4_hold 6 = .ok (.invokestatic 45, 3) := by decide +kernel
theorem dX4_hold_9 : decode cX4_hold 9 = .ok (.ifCond .eq 16, 3) := by decide +kernel
theorem dX4_hold_12 : decode cX4_hold 12 = .ok (.iload_n 2, 1) := by decide +kernel
theorem dX4_hold_13 : decode cX4_hold 13 = .ok (.iconst (-1), 1) := by decide +kernel
theorem dX4_hold_14 : decode cX4_hold 14 = .ok (.if_icmp .eq 18, 3) := by decide +kernel
theorem dX4_hold_17 : decode cX4_hold 17 = .ok (.aload_n 0, 1) := by decide +kernel
theorem dX4_hold_18 : decode cX4_hold 18 = .ok (.iload_n 2, 1) := by decide +kernel
theorem dX4_hold_19 : decode cX4_hold 19 = .ok (.invokevirtual 101, 3) := by decide +kernel
theorem dX4_hold_22 : decode cX4_hold 22 = .ok (.ifCond .ne 10, 3) := by decide +kernel
theorem dX4_hold_25 : decode cX4_hold 25 = .ok (.aload_n 0, 1) := by decide +kernel
theorem dX4_hold_26 : decode cX4_hold 26 = .ok (.ldc 37, 2) := by decide +kernel
theorem dX4_hold_28 : decode cX4_hold 28 = .ok (.invokevirtual 39, 3) := by decide +kernel
theorem dX4_hold_31 : decode cX4_hold 31 = .ok (.ireturn, 1) := by decide +kernel
theorem dX4_hold_32 : decode cX4_hold 32 = .ok (.aload_n 0, 1) := by decide +kernel
theorem dX4_hold_33 : decode cX4_hold 33 = .ok (.getfield 9, 3) := by decide +kernel
theorem dX4_hold_36 : decode cX4_hold 36 = .ok (.bipush 99, 2) := by decide +kernel
theorem dX4_hold_38 : decode cX4_hold 38 = .ok (.iload_n 1, 1) := by decide +kernel
theorem dX4_hold_39 : decode cX4_hold 39 = .ok (.iadd, 1) := by decide +kernel
theorem dX4_hold_40 : decode cX4_hold 40 = .ok (.iload_n 2, 1) := by decide +kernel
theorem dX4_hold_41 : decode cX4_hold 41 = .ok (.iastore, 1) := by decide +kernel
theorem dX4_hold_42 : decode cX4_hold 42 = .ok (.iconst 1, 1) := by decide +kernel
theorem dX4_hold_43 : decode cX4_hold 43 = .ok (.ireturn, 1) := by decide +kernel
theorem dX4_above_0 : decode cX4_above 0 = .ok (.iload_n 0, 1) := by decide +kernel
theorem dX4_above_1 : decode cX4_above 1 = .ok (.tableswitch 49 0 6 #[43, 49, 49, 45, 47, 49, 47], 43) := by decide +kernel
theorem dX4_above_44 : decode cX4_above 44 = .ok (.iconst (-1), 1) := by decide +kernel
theorem dX4_above_45 : decode cX4_above 45 = .ok (.ireturn, 1) := by decide +kernel
theorem dX4_above_46 : decode cX4_above 46 = .ok (.iconst 2, 1) := by decide +kernel
theorem dX4_above_47 : decode cX4_above 47 = .ok (.ireturn, 1) := by decide +kernel
theorem dX4_above_48 : decode cX4_above 48 = .ok (.iconst 1, 1) := by decide +kernel
theorem dX4_above_49 : decode cX4_above 49 = .ok (.ireturn, 1) := by decide +kernel
theorem dX4_above_50 : decode cX4_above 50 = .ok (.iconst 0, 1) := by decide +kernel
theorem dX4_above_51 : decode cX4_above 51 = .ok (.ireturn, 1) := by decide +kernel
theorem dX4_as_0 : decode cX4_as 0 = .ok (.iload_n 1, 1) := by decide +kernel
theorem dX4_as_1 : decode cX4_as 1 = .ok (.i2l, 1) := by decide +kernel
theorem dX4_as_2 : decode cX4_as 2 = .ok (.lconst 0, 1) := by decide +kernel
theorem dX4_as_3 : decode cX4_as 3 = .ok (.ldc2_w 299, 3) := by decide +kernel
theorem dX4_as_6 : decode cX4_as 6 = .ok (.invokestatic 45, 3) := by decide +kernel
theorem dX4_as_9 : decode cX4_as 9 = .ok (.ifCond .eq 10, 3) := by decide +kernel
theorem dX4_as_12 : decode cX4_as 12 = .ok (.iload_n 2, 1) := by decide +kernel
theorem dX4_as_13 : decode cX4_as 13 = .ok (.invokestatic 91, 3) := by decide +kernel
theorem dX4_as_16 : decode cX4_as 16 = .ok (.ifCond .ne 10, 3) := by decide +kernel
theorem dX4_as_19 : decode cX4_as 19 = .ok (.aload_n 0, 1) := by decide +kernel
theorem dX4_as_20 : decode cX4_as 20 = .ok (.ldc 37, 2) := by decide +kernel
theorem dX4_as_22 : decode cX4_as 22 = .ok (.invokevirtual 39, 3) := by decide +kernel
theorem dX4_as_25 : decode cX4_as 25 = .ok (.ireturn, 1) := by decide +kernel
theorem dX4_as_26 : decode cX4_as 26 = .ok (.aload_n 0, 1) := by decide +kernel
theorem dX4_as_27 : decode cX4_as 27 = .ok (.getfield 9, 3) := by decide +kernel
theorem dX4_as_30 : decode cX4_as 30 = .ok (.bipush 99, 2) := by decide +kernel
theorem dX4_as_32 : decode cX4_as 32 = .ok (.iload_n 1, 1) := by decide +kernel
theorem dX4_as_33 : decode cX4_as 33 = .ok (.iadd, 1) := by decide +kernel
theorem dX4_as_34 : decode cX4_as 34 = .ok (.iaload, 1) := by decide +kernel
theorem dX4_as_35 : decode cX4_as 35 = .ok (.istore_n 3, 1) := by decide +kernel
theorem dX4_as_36 : decode cX4_as 36 = .ok (.iload_n 3, 1) := by decide +kernel
theorem dX4_as_37 : decode cX4_as 37 = .ok (.ifCond .ge 11, 3) := by decide +kernel
theorem dX4_as_40 : decode cX4_as 40 = .ok (.aload_n 0, 1) := by decide +kernel
theorem dX4_as_41 : decode cX4_as 41 = .ok (.ldc_w 301, 3) := by decide +kernel
theorem dX4_as_44 : decode cX4_as 44 = .ok (.invokevirtual 39, 3) := by decide +kernel
theorem dX4_as_47 : decode cX4_as 47 = .ok (.ireturn, 1) := by decide +kernel
theorem dX4_as_48 : decode cX4_as 48 = .ok (.aload_n 0, 1) := by decide +kernel
theorem dX4_as_49 : decode cX4_as 49 = .ok (.iload_n 3, 1) := by decide +kernel
theorem dX4_as_50 : decode cX4_as 50 = .ok (.iconst 0, 1) := by decide +kernel
theorem dX4_as_51 : decode cX4_as 51 = .ok (.invokevirtual 51, 3) := by decide +kernel
theorem dX4_as_54 : decode cX4_as 54 = .ok (.istore 4, 2) := by decide +kernel
theorem dX4_as_56 : decode cX4_as 56 = .ok (.iload 4, 2) := by decide +kernel
theorem dX4_as_58 : decode cX4_as 58 = .ok (.ifCond .lt 21, 3) := by decide +kernel
theorem dX4_as_61 : decode cX4_as 61 = .ok (.iload 4, 2) := by decide +kernel
theorem dX4_as_63 : decode cX4_as 63 = .ok (.iload_n 2, 1) := by decide +kernel
theorem dX4_as_64 : decode cX4_as 64 = .ok (.if_icmp .ne 5, 3) := by decide +kernel
theorem dX4_as_67 : decode cX4_as 67 = .ok (.iload_n 3, 1) := by decide +kernel
theorem dX4_as_68 : decode cX4_as 68 = .ok (.ireturn, 1) := by decide +kernel
theorem dX4_as_69 : decode cX4_as 69 = .ok (.iload 4, 2) := by decide +kernel
theorem dX4_as_71 : decode cX4_as 71 = .ok (.invokestatic 302, 3) := by decide +kernel
theorem dX4_as_74 : decode cX4_as 74 = .ok (.istore 4, 2) := by decide +kernel
theorem dX4_as_76 : decode cX4_as 76 = .ok (.goto (-20), 3) := by decide +kernel
theorem dX4_as_79 : decode cX4_as 79 = .ok (.aload_n 0, 1) := by decide +kernel
theorem dX4_as_80 : decode cX4_as 80 = .ok (.ldc_w 305, 3) := by decide +kernel
theorem dX4_as_83 : decode cX4_as 83 = .ok (.invokevirtual 39, 3) := by decide +kernel
theorem dX4_as_86 : decode cX4_as 86 = .ok (.ireturn, 1) := by decide +kernel
theorem dX4_isSheet_0 : decode cX4_isSheet 0 = .ok (.iload_n 0, 1) := by decide +kernel
theorem dX4_isSheet_1 : decode cX4_isSheet 1 = .ok (.i2l, 1) := by decide +kernel
theorem dX4_isSheet_2 : decode cX4_isSheet 2 = .ok (.lconst 0, 1) := by decide +kernel
theorem dX4_isSheet_3 : decode cX4_isSheet 3 = .ok (.ldc2_w 106, 3) := by decide +kernel
theorem dX4_isSheet_6 : decode cX4_isSheet 6 = .ok (.invokestatic 45, 3) := by decide +kernel
theorem dX4_isSheet_9 : decode cX4_isSheet 9 = .ok (.ireturn, 1) := by decide +kernel
theorem dX4_sheet_0 : decode cX4_sheet 0 = .ok (.iload_n 1, 1) := by decide +kernel
theorem dX4_sheet_1 : decode cX4_sheet 1 = .ok (.invokestatic 306, 3) := by decide +kernel
theorem dX4_sheet_4 : decode cX4_sheet 4 = .ok (.ifCond .eq 25, 3) := by decide +kernel
theorem dX4_sheet_7 : decode cX4_sheet 7 = .ok (.iload_n 2, 1) := by decide +kernel
theorem dX4_sheet_8 : decode cX4_sheet 8 = .ok (.ifCond .eq 28, 3) := by decide +kernel
theorem dX4_sheet_11 : decode cX4_sheet 11 = .ok (.iload_n 2, 1) := by decide +kernel
theorem dX4_sheet_12 : decode cX4_sheet 12 = .ok (.bipush 8, 2) := by decide +kernel
theorem dX4_sheet_14 : decode cX4_sheet 14 = .ok (.if_icmp .eq 22, 3) := by decide +kernel
theorem dX4_sheet_17 : decode cX4_sheet 17 = .ok (.iload_n 2, 1) := by decide +kernel
theorem dX4_sheet_18 : decode cX4_sheet 18 = .ok (.bipush 16, 2) := by decide +kernel
theorem dX4_sheet_20 : decode cX4_sheet 20 = .ok (.if_icmp .eq 16, 3) := by decide +kernel
theorem dX4_sheet_23 : decode cX4_sheet 23 = .ok (.iload_n 2, 1) := by decide +kernel
theorem dX4_sheet_24 : decode cX4_sheet 24 = .ok (.bipush 32, 2) := by decide +kernel
theorem dX4_sheet_26 : decode cX4_sheet 26 = .ok (.if_icmp .eq 10, 3) := by decide +kernel
theorem dX4_sheet_29 : decode cX4_sheet 29 = .ok (.aload_n 0, 1) := by decide +kernel
theorem dX4_sheet_30 : decode cX4_sheet 30 = .ok (.ldc 37, 2) := by decide +kernel
theorem dX4_sheet_32 : decode cX4_sheet 32 = .ok (.invokevirtual 39, 3) := by decide +kernel
theorem dX4_sheet_35 : decode cX4_sheet 35 = .ok (.ireturn, 1) := by decide +kernel
theorem dX4_sheet_36 : decode cX4_sheet 36 = .ok (.iload_n 3, 1) := by decide +kernel
theorem dX4_sheet_37 : decode cX4_sheet 37 = .ok (.ifCond .ge 10, 3) := by decide +kernel
theorem dX4_sheet_40 : decode cX4_sheet 40 = .ok (.aload_n 0, 1) := by decide +kernel
theorem dX4_sheet_41 : decode cX4_sheet 41 = .ok (.ldc 185, 2) := by decide +kernel
theorem dX4_sheet_43 : decode cX4_sheet 43 = .ok (.invokevirtual 39, 3) := by decide +kernel
theorem dX4_sheet_46 : decode cX4_sheet 46 = .ok (.ireturn, 1) := by decide +kernel
theorem dX4_sheet_47 : decode cX4_sheet 47 = .ok (.iload_n 3, 1) := by decide +kernel
theorem dX4_sheet_48 : decode cX4_sheet 48 = .ok (.bipush 40, 2) := by decide +kernel
theorem dX4_sheet_50 : decode cX4_sheet 50 = .ok (.if_icmp .le 10, 3) := by decide +kernel
theorem dX4_sheet_53 : decode cX4_sheet 53 = .ok (.aload_n 0, 1) := by decide +kernel
theorem dX4_sheet_54 : decode cX4_sheet 54 = .ok (.ldc 37, 2) := by decide +kernel
theorem dX4_sheet_56 : decode cX4_sheet 56 = .ok (.invokevirtual 39, 3) := by decide +kernel
theorem dX4_sheet_59 : decode cX4_sheet 59 = .ok (.ireturn, 1) := by decide +kernel
theorem dX4_sheet_60 : decode cX4_sheet 60 = .ok (.aload_n 0, 1) := by decide +kernel
theorem dX4_sheet_61 : decode cX4_sheet 61 = .ok (.getfield 28, 3) := by decide +kernel
theorem dX4_sheet_64 : decode cX4_sheet 64 = .ok (.iload_n 1, 1) := by decide +kernel
theorem dX4_sheet_65 : decode cX4_sheet 65 = .ok (.iload_n 2, 1) := by decide +kernel
theorem dX4_sheet_66 : decode cX4_sheet 66 = .ok (.iastore, 1) := by decide +kernel
theorem dX4_sheet_67 : decode cX4_sheet 67 = .ok (.aload_n 0, 1) := by decide +kernel
theorem dX4_sheet_68 : decode cX4_sheet 68 = .ok (.getfield 31, 3) := by decide +kernel
theorem dX4_sheet_71 : decode cX4_sheet 71 = .ok (.iload_n 1, 1) := by decide +kernel
theorem dX4_sheet_72 : decode cX4_sheet 72 = .ok (.iload_n 2, 1) := by decide +kernel
theorem dX4_sheet_73 : decode cX4_sheet 73 = .ok (.ifCond .ne 7, 3) := by decide +kernel
theorem dX4_sheet_76 : decode cX4_sheet 76 = .ok (.iconst 0, 1) := by decide +kernel
theorem dX4_sheet_77 : decode cX4_sheet 77 = .ok (.goto 4, 3) := by decide +kernel
theorem dX4_sheet_80 : decode cX4_sheet 80 = .ok (.iload_n 3, 1) := by decide +kernel
theorem dX4_sheet_81 : decode cX4_sheet 81 = .ok (.iastore, 1) := by decide +kernel
theorem dX4_sheet_82 : decode cX4_sheet 82 = .ok (.iconst 0, 1) := by decide +kernel
theorem dX4_sheet_83 : decode cX4_sheet 83 = .ok (.istore 4, 2) := by decide +kernel
theorem dX4_sheet_85 : decode cX4_sheet 85 = .ok (.iload 4, 2) := by decide +kernel
theorem dX4_sheet_87 : decode cX4_sheet 87 = .ok (.bipush 40, 2) := by decide +kernel
theorem dX4_sheet_89 : decode cX4_sheet 89 = .ok (.if_icmp .ge 22, 3) := by decide +kernel
theorem dX4_sheet_92 : decode cX4_sheet 92 = .ok (.aload_n 0, 1) := by decide +kernel
theorem dX4_sheet_93 : decode cX4_sheet 93 = .ok (.getfield 34, 3) := by decide +kernel
theorem dX4_sheet_96 : decode cX4_sheet 96 = .ok (.bipush 40, 2) := by decide +kernel
theorem dX4_sheet_98 : decode cX4_sheet 98 = .ok (.iload_n 1, 1) := by decide +kernel
theorem dX4_sheet_99 : decode cX4_sheet 99 = .ok (.imul, 1) := by decide +kernel
theorem dX4_sheet_100 : decode cX4_sheet 100 = .ok (.iload 4, 2) := by decide +kernel
theorem dX4_sheet_102 : decode cX4_sheet 102 = .ok (.iadd, 1) := by decide +kernel
theorem dX4_sheet_103 : decode cX4_sheet 103 = .ok (.iconst 0, 1) := by decide +kernel
theorem dX4_sheet_104 : decode cX4_sheet 104 = .ok (.iastore, 1) := by decide +kernel
theorem dX4_sheet_105 : decode cX4_sheet 105 = .ok (.iinc 4 1, 3) := by decide +kernel
theorem dX4_sheet_108 : decode cX4_sheet 108 = .ok (.goto (-23), 3) := by decide +kernel
theorem dX4_sheet_111 : decode cX4_sheet 111 = .ok (.aload_n 0, 1) := by decide +kernel
theorem dX4_sheet_112 : decode cX4_sheet 112 = .ok (.getfield 31, 3) := by decide +kernel
theorem dX4_sheet_115 : decode cX4_sheet 115 = .ok (.iload_n 1, 1) := by decide +kernel
theorem dX4_sheet_116 : decode cX4_sheet 116 = .ok (.iaload, 1) := by decide +kernel
theorem dX4_sheet_117 : decode cX4_sheet 117 = .ok (.ireturn, 1) := by decide +kernel
theorem dX4_write_0 : decode cX4_write 0 = .ok (.iload_n 1, 1) := by decide +kernel
theorem dX4_write_1 : decode cX4_write 1 = .ok (.invokestatic 306, 3) := by decide +kernel
theorem dX4_write_4 : decode cX4_write 4 = .ok (.ifCond .ne 10, 3) := by decide +kernel
theorem dX4_write_7 : decode cX4_write 7 = .ok (.aload_n 0, 1) := by decide +kernel
theorem dX4_write_8 : decode cX4_write 8 = .ok (.ldc 37, 2) := by decide +kernel
theorem dX4_write_10 : decode cX4_write 10 = .ok (.invokevirtual 39, 3) := by decide +kernel
theorem dX4_write_13 : decode cX4_write 13 = .ok (.ireturn, 1) := by decide +kernel
theorem dX4_write_14 : decode cX4_write 14 = .ok (.aload_n 0, 1) := by decide +kernel
theorem dX4_write_15 : decode cX4_write 15 = .ok (.getfield 28, 3) := by decide +kernel
theorem dX4_write_18 : decode cX4_write 18 = .ok (.iload_n 1, 1) := by decide +kernel
theorem dX4_write_19 : decode cX4_write 19 = .ok (.iaload, 1) := by decide +kernel
theorem dX4_write_20 : decode cX4_write 20 = .ok (.ifCond .ne 11, 3) := by decide +kernel
theorem dX4_write_23 : decode cX4_write 23 = .ok (.aload_n 0, 1) := by decide +kernel
theorem dX4_write_24 : decode cX4_write 24 = .ok (.ldc_w 301, 3) := by decide +kernel
theorem dX4_write_27 : decode cX4_write 27 = .ok (.invokevirtual 39, 3) := by decide +kernel
theorem dX4_write_30 : decode cX4_write 30 = .ok (.ireturn, 1) := by decide +kernel
theorem dX4_write_31 : decode cX4_write 31 = .ok (.iload_n 2, 1) := by decide +kernel
theorem dX4_write_32 : decode cX4_write 32 = .ok (.i2l, 1) := by decide +kernel
theorem dX4_write_33 : decode cX4_write 33 = .ok (.lconst 0, 1) := by decide +kernel
theorem dX4_write_34 : decode cX4_write 34 = .ok (.aload_n 0, 1) := by decide +kernel
theorem dX4_write_35 : decode cX4_write 35 = .ok (.getfield 31, 3) := by decide +kernel
theorem dX4_write_38 : decode cX4_write 38 = .ok (.iload_n 1, 1) := by decide +kernel
theorem dX4_write_39 : decode cX4_write 39 = .ok (.iaload, 1) := by decide +kernel
theorem dX4_write_40 : decode cX4_write 40 = .ok (.iconst 1, 1) := by decide +kernel
theorem dX4_write_41 : decode cX4_write 41 = .ok (.isub, 1) := by decide +kernel
theorem dX4_write_42 : decode cX4_write 42 = .ok (.i2l, 1) := by decide +kernel
theorem dX4_write_43 : decode cX4_write 43 = .ok (.invokestatic 45, 3) := by decide +kernel
theorem dX4_write_46 : decode cX4_write 46 = .ok (.ifCond .ne 10, 3) := by decide +kernel
theorem dX4_write_49 : decode cX4_write 49 = .ok (.aload_n 0, 1) := by decide +kernel
theorem dX4_write_50 : decode cX4_write 50 = .ok (.ldc 37, 2) := by decide +kernel
theorem dX4_write_52 : decode cX4_write 52 = .ok (.invokevirtual 39, 3) := by decide +kernel
theorem dX4_write_55 : decode cX4_write 55 = .ok (.ireturn, 1) := by decide +kernel
theorem dX4_write_56 : decode cX4_write 56 = .ok (.aload_n 0, 1) := by decide +kernel
theorem dX4_write_57 : decode cX4_write 57 = .ok (.getfield 34, 3) := by decide +kernel
theorem dX4_write_60 : decode cX4_write 60 = .ok (.bipush 40, 2) := by decide +kernel
theorem dX4_write_62 : decode cX4_write 62 = .ok (.iload_n 1, 1) := by decide +kernel
theorem dX4_write_63 : decode cX4_write 63 = .ok (.imul, 1) := by decide +kernel
theorem dX4_write_64 : decode cX4_write 64 = .ok (.iload_n 2, 1) := by decide +kernel
theorem dX4_write_65 : decode cX4_write 65 = .ok (.iadd, 1) := by decide +kernel
theorem dX4_write_66 : decode cX4_write 66 = .ok (.aload_n 0, 1) := by decide +kernel
theorem dX4_write_67 : decode cX4_write 67 = .ok (.getfield 28, 3) := by decide +kernel
theorem dX4_write_70 : decode cX4_write 70 = .ok (.iload_n 1, 1) := by decide +kernel
theorem dX4_write_71 : decode cX4_write 71 = .ok (.iaload, 1) := by decide +kernel
theorem dX4_write_72 : decode cX4_write 72 = .ok (.bipush 8, 2) := by decide +kernel
theorem dX4_write_74 : decode cX4_write 74 = .ok (.if_icmp .ne 8, 3) := by decide +kernel
theorem dX4_write_77 : decode cX4_write 77 = .ok (.iload_n 3, 1) := by decide +kernel
theorem dX4_write_78 : decode cX4_write 78 = .ok (.i2b, 1) := by decide +kernel
theorem dX4_write_79 : decode cX4_write 79 = .ok (.goto 20, 3) := by decide +kernel
theorem dX4_write_82 : decode cX4_write 82 = .ok (.aload_n 0, 1) := by decide +kernel
theorem dX4_write_83 : decode cX4_write 83 = .ok (.getfield 28, 3) := by decide +kernel
theorem dX4_write_86 : decode cX4_write 86 = .ok (.iload_n 1, 1) := by decide +kernel
theorem dX4_write_87 : decode cX4_write 87 = .ok (.iaload, 1) := by decide +kernel
theorem dX4_write_88 : decode cX4_write 88 = .ok (.bipush 16, 2) := by decide +kernel
theorem dX4_write_90 : decode cX4_write 90 = .ok (.if_icmp .ne 8, 3) := by decide +kernel
theorem dX4_write_93 : decode cX4_write 93 = .ok (.iload_n 3, 1) := by decide +kernel
theorem dX4_write_94 : decode cX4_write 94 = .ok (.i2s, 1) := by decide +kernel
theorem dX4_write_95 : decode cX4_write 95 = .ok (.goto 4, 3) := by decide +kernel
theorem dX4_write_98 : decode cX4_write 98 = .ok (.iload_n 3, 1) := by decide +kernel
theorem dX4_write_99 : decode cX4_write 99 = .ok (.iastore, 1) := by decide +kernel
theorem dX4_write_100 : decode cX4_write 100 = .ok (.iconst 1, 1) := by decide +kernel
theorem dX4_write_101 : decode cX4_write 101 = .ok (.ireturn, 1) := by decide +kernel
theorem dX4_copy_0 : decode cX4_copy 0 = .ok (.iload_n 1, 1) := by decide +kernel
theorem dX4_copy_1 : decode cX4_copy 1 = .ok (.invokestatic 306, 3) := by decide +kernel
theorem dX4_copy_4 : decode cX4_copy 4 = .ok (.ifCond .eq 10, 3) := by decide +kernel
theorem dX4_copy_7 : decode cX4_copy 7 = .ok (.iload_n 3, 1) := by decide +kernel
theorem dX4_copy_8 : decode cX4_copy 8 = .ok (.invokestatic 306, 3) := by decide +kernel
theorem dX4_copy_11 : decode cX4_copy 11 = .ok (.ifCond .ne 10, 3) := by decide +kernel
theorem dX4_copy_14 : decode cX4_copy 14 = .ok (.aload_n 0, 1) := by decide +kernel
theorem dX4_copy_15 : decode cX4_copy 15 = .ok (.ldc 37, 2) := by decide +kernel
theorem dX4_copy_17 : decode cX4_copy 17 = .ok (.invokevirtual 39, 3) := by decide +kernel
theorem dX4_copy_20 : decode cX4_copy 20 = .ok (.ireturn, 1) := by decide +kernel
theorem dX4_copy_21 : decode cX4_copy 21 = .ok (.aload_n 0, 1) := by decide +kernel
theorem dX4_copy_22 : decode cX4_copy 22 = .ok (.getfield 28, 3) := by decide +kernel
theorem dX4_copy_25 : decode cX4_copy 25 = .ok (.iload_n 1, 1) := by decide +kernel
theorem dX4_copy_26 : decode cX4_copy 26 = .ok (.iaload, 1) := by decide +kernel
theorem dX4_copy_27 : decode cX4_copy 27 = .ok (.ifCond .eq 12, 3) := by decide +kernel
theorem dX4_copy_30 : decode cX4_copy 30 = .ok (.aload_n 0, 1) := by decide +kernel
theorem dX4_copy_31 : decode cX4_copy 31 = .ok (.getfield 28, 3) := by decide +kernel
theorem dX4_copy_34 : decode cX4_copy 34 = .ok (.iload_n 3, 1) := by decide +kernel
theorem dX4_copy_35 : decode cX4_copy 35 = .ok (.iaload, 1) := by decide +kernel
theorem dX4_copy_36 : decode cX4_copy 36 = .ok (.ifCond .ne 11, 3) := by decide +kernel
theorem dX4_copy_39 : decode cX4_copy 39 = .ok (.aload_n 0, 1) := by decide +kernel
theorem dX4_copy_40 : decode cX4_copy 40 = .ok (.ldc_w 301, 3) := by decide +kernel
theorem dX4_copy_43 : decode cX4_copy 43 = .ok (.invokevirtual 39, 3) := by decide +kernel
theorem dX4_copy_46 : decode cX4_copy 46 = .ok (.ireturn, 1) := by decide +kernel
theorem dX4_copy_47 : decode cX4_copy 47 = .ok (.aload_n 0, 1) := by decide +kernel
theorem dX4_copy_48 : decode cX4_copy 48 = .ok (.getfield 28, 3) := by decide +kernel
theorem dX4_copy_51 : decode cX4_copy 51 = .ok (.iload_n 1, 1) := by decide +kernel
theorem dX4_copy_52 : decode cX4_copy 52 = .ok (.iaload, 1) := by decide +kernel
theorem dX4_copy_53 : decode cX4_copy 53 = .ok (.aload_n 0, 1) := by decide +kernel
theorem dX4_copy_54 : decode cX4_copy 54 = .ok (.getfield 28, 3) := by decide +kernel
theorem dX4_copy_57 : decode cX4_copy 57 = .ok (.iload_n 3, 1) := by decide +kernel
theorem dX4_copy_58 : decode cX4_copy 58 = .ok (.iaload, 1) := by decide +kernel
theorem dX4_copy_59 : decode cX4_copy 59 = .ok (.if_icmp .eq 11, 3) := by decide +kernel
theorem dX4_copy_62 : decode cX4_copy 62 = .ok (.aload_n 0, 1) := by decide +kernel
theorem dX4_copy_63 : decode cX4_copy 63 = .ok (.ldc_w 305, 3) := by decide +kernel
theorem dX4_copy_66 : decode cX4_copy 66 = .ok (.invokevirtual 39, 3) := by decide +kernel
theorem dX4_copy_69 : decode cX4_copy 69 = .ok (.ireturn, 1) := by decide +kernel
theorem dX4_copy_70 : decode cX4_copy 70 = .ok (.iload 5, 2) := by decide +kernel
theorem dX4_copy_72 : decode cX4_copy 72 = .ok (.ifCond .lt 39, 3) := by decide +kernel
theorem dX4_copy_75 : decode cX4_copy 75 = .ok (.iload_n 2, 1) := by decide +kernel
theorem dX4_copy_76 : decode cX4_copy 76 = .ok (.ifCond .lt 35, 3) := by decide +kernel
theorem dX4_copy_79 : decode cX4_copy 79 = .ok (.iload 4, 2) := by decide +kernel
theorem dX4_copy_81 : decode cX4_copy 81 = .ok (.ifCond .lt 30, 3) := by decide +kernel
theorem dX4_copy_84 : decode cX4_copy 84 = .ok (.iload 5, 2) := by decide +kernel
theorem dX4_copy_86 : decode cX4_copy 86 = .ok (.aload_n 0, 1) := by decide +kernel
theorem dX4_copy_87 : decode cX4_copy 87 = .ok (.getfield 31, 3) := by decide +kernel
theorem dX4_copy_90 : decode cX4_copy 90 = .ok (.iload_n 1, 1) := by decide +kernel
theorem dX4_copy_91 : decode cX4_copy 91 = .ok (.iaload, 1) := by decide +kernel
theorem dX4_copy_92 : decode cX4_copy 92 = .ok (.iload_n 2, 1) := by decide +kernel
theorem dX4_copy_93 : decode cX4_copy 93 = .ok (.isub, 1) := by decide +kernel
theorem dX4_copy_94 : decode cX4_copy 94 = .ok (.if_icmp .gt 17, 3) := by decide +kernel
theorem dX4_copy_97 : decode cX4_copy 97 = .ok (.iload 5, 2) := by decide +kernel
theorem dX4_copy_99 : decode cX4_copy 99 = .ok (.aload_n 0, 1) := by decide +kernel
theorem dX4_copy_100 : decode cX4_copy 100 = .ok (.getfield 31, 3) := by decide +kernel
theorem dX4_copy_103 : decode cX4_copy 103 = .ok (.iload_n 3, 1) := by decide +kernel
theorem dX4_copy_104 : decode cX4_copy 104 = .ok (.iaload, 1) := by decide +kernel
theorem dX4_copy_105 : decode cX4_copy 105 = .ok (.iload 4, 2) := by decide +kernel
theorem dX4_copy_107 : decode cX4_copy 107 = .ok (.isub, 1) := by decide +kernel
theorem dX4_copy_108 : decode cX4_copy 108 = .ok (.if_icmp .le 10, 3) := by decide +kernel
theorem dX4_copy_111 : decode cX4_copy 111 = .ok (.aload_n 0, 1) := by decide +kernel
theorem dX4_copy_112 : decode cX4_copy 112 = .ok (.ldc 37, 2) := by decide +kernel
theorem dX4_copy_114 : decode cX4_copy 114 = .ok (.invokevirtual 39, 3) := by decide +kernel
theorem dX4_copy_117 : decode cX4_copy 117 = .ok (.ireturn, 1) := by decide +kernel
theorem dX4_copy_118 : decode cX4_copy 118 = .ok (.iload_n 1, 1) := by decide +kernel
theorem dX4_copy_119 : decode cX4_copy 119 = .ok (.iload_n 3, 1) := by decide +kernel
theorem dX4_copy_120 : decode cX4_copy 120 = .ok (.if_icmp .ne 13, 3) := by decide +kernel
theorem dX4_copy_123 : decode cX4_copy 123 = .ok (.iload_n 2, 1) := by decide +kernel
theorem dX4_copy_124 : decode cX4_copy 124 = .ok (.iload 4, 2) := by decide +kernel
theorem dX4_copy_126 : decode cX4_copy 126 = .ok (.if_icmp .ge 7, 3) := by decide +kernel
theorem dX4_copy_129 : decode cX4_copy 129 = .ok (.iconst 1, 1) := by decide +kernel
theorem dX4_copy_130 : decode cX4_copy 130 = .ok (.goto 4, 3) := by decide +kernel
theorem dX4_copy_133 : decode cX4_copy 133 = .ok (.iconst 0, 1) := by decide +kernel
theorem dX4_copy_134 : decode cX4_copy 134 = .ok (.istore 6, 2) := by decide +kernel
theorem dX4_copy_136 : decode cX4_copy 136 = .ok (.iconst 0, 1) := by decide +kernel
theorem dX4_copy_137 : decode cX4_copy 137 = .ok (.istore 7, 2) := by decide +kernel
theorem dX4_copy_139 : decode cX4_copy 139 = .ok (.iload 7, 2) := by decide +kernel
theorem dX4_copy_141 : decode cX4_copy 141 = .ok (.iload 5, 2) := by decide +kernel
theorem dX4_copy_143 : decode cX4_copy 143 = .ok (.if_icmp .ge 57, 3) := by decide +kernel
theorem dX4_copy_146 : decode cX4_copy 146 = .ok (.iload 6, 2) := by decide +kernel
theorem dX4_copy_148 : decode cX4_copy 148 = .ok (.ifCond .eq 13, 3) := by decide +kernel
theorem dX4_copy_151 : decode cX4_copy 151 = .ok (.iload 5, 2) := by decide +kernel
theorem dX4_copy_153 : decode cX4_copy 153 = .ok (.iconst 1, 1) := by decide +kernel
theorem dX4_copy_154 : decode cX4_copy 154 = .ok (.isub, 1) := by decide +kernel
theorem dX4_copy_155 : decode cX4_copy 155 = .ok (.iload 7, 2) := by decide +kernel
theorem dX4_copy_157 : decode cX4_copy 157 = .ok (.isub, 1) := by decide +kernel
theorem dX4_copy_158 : decode cX4_copy 158 = .ok (.goto 5, 3) := by decide +kernel
theorem dX4_copy_161 : decode cX4_copy 161 = .ok (.iload 7, 2) := by decide +kernel
theorem dX4_copy_163 : decode cX4_copy 163 = .ok (.istore 8, 2) := by decide +kernel
theorem dX4_copy_165 : decode cX4_copy 165 = .ok (.aload_n 0, 1) := by decide +kernel
theorem dX4_copy_166 : decode cX4_copy 166 = .ok (.getfield 34, 3) := by decide +kernel
theorem dX4_copy_169 : decode cX4_copy 169 = .ok (.bipush 40, 2) := by decide +kernel
theorem dX4_copy_171 : decode cX4_copy 171 = .ok (.iload_n 3, 1) := by decide +kernel
theorem dX4_copy_172 : decode cX4_copy 172 = .ok (.imul, 1) := by decide +kernel
theorem dX4_copy_173 : decode cX4_copy 173 = .ok (.iload 4, 2) := by decide +kernel
theorem dX4_copy_175 : decode cX4_copy 175 = .ok (.iadd, 1) := by decide +kernel
theorem dX4_copy_176 : decode cX4_copy 176 = .ok (.iload 8, 2) := by decide +kernel
theorem dX4_copy_178 : decode cX4_copy 178 = .ok (.iadd, 1) := by decide +kernel
theorem dX4_copy_179 : decode cX4_copy 179 = .ok (.aload_n 0, 1) := by decide +kernel
theorem dX4_copy_180 : decode cX4_copy 180 = .ok (.getfield 34, 3) := by decide +kernel
theorem dX4_copy_183 : decode cX4_copy 183 = .ok (.bipush 40, 2) := by decide +kernel
theorem dX4_copy_185 : decode cX4_copy 185 = .ok (.iload_n 1, 1) := by decide +kernel
theorem dX4_copy_186 : decode cX4_copy 186 = .ok (.imul, 1) := by decide +kernel
theorem dX4_copy_187 : decode cX4_copy 187 = .ok (.iload_n 2, 1) := by decide +kernel
theorem dX4_copy_188 : decode cX4_copy 188 = .ok (.iadd, 1) := by decide +kernel
theorem dX4_copy_189 : decode cX4_copy 189 = .ok (.iload 8, 2) := by decide +kernel
theorem dX4_copy_191 : decode cX4_copy 191 = .ok (.iadd, 1) := by decide +kernel
theorem dX4_copy_192 : decode cX4_copy 192 = .ok (.iaload, 1) := by decide +kernel
theorem dX4_copy_193 : decode cX4_copy 193 = .ok (.iastore, 1) := by decide +kernel
theorem dX4_copy_194 : decode cX4_copy 194 = .ok (.iinc 7 1, 3) := by decide +kernel
theorem dX4_copy_197 : decode cX4_copy 197 = .ok (.goto (-58), 3) := by decide +kernel
theorem dX4_copy_200 : decode cX4_copy 200 = .ok (.iload 5, 2) := by decide +kernel
theorem dX4_copy_202 : decode cX4_copy 202 = .ok (.ireturn, 1) := by decide +kernel
theorem dX4_load_0 : decode cX4_load 0 = .ok (.iload_n 1, 1) := by decide +kernel
theorem dX4_load_1 : decode cX4_load 1 = .ok (.invokestatic 306, 3) := by decide +kernel
theorem dX4_load_4 : decode cX4_load 4 = .ok (.ifCond .ne 10, 3) := by decide +kernel
theorem dX4_load_7 : decode cX4_load 7 = .ok (.aload_n 0, 1) := by decide +kernel
theorem dX4_load_8 : decode cX4_load 8 = .ok (.ldc 37, 2) := by decide +kernel
theorem dX4_load_10 : decode cX4_load 10 = .ok (.invokevirtual 39, 3) := by decide +kernel
theorem dX4_load_13 : decode cX4_load 13 = .ok (.ireturn, 1) := by decide +kernel
theorem dX4_load_14 : decode cX4_load 14 = .ok (.aload_n 0, 1) := by decide +kernel
theorem dX4_load_15 : decode cX4_load 15 = .ok (.getfield 28, 3) := by decide +kernel
theorem dX4_load_18 : decode cX4_load 18 = .ok (.iload_n 1, 1) := by decide +kernel
theorem dX4_load_19 : decode cX4_load 19 = .ok (.iaload, 1) := by decide +kernel
theorem dX4_load_20 : decode cX4_load 20 = .ok (.ifCond .ne 11, 3) := by decide +kernel
theorem dX4_load_23 : decode cX4_load 23 = .ok (.aload_n 0, 1) := by decide +kernel
theorem dX4_load_24 : decode cX4_load 24 = .ok (.ldc_w 301, 3) := by decide +kernel
theorem dX4_load_27 : decode cX4_load 27 = .ok (.invokevirtual 39, 3) := by decide +kernel
theorem dX4_load_30 : decode cX4_load 30 = .ok (.ireturn, 1) := by decide +kernel
theorem dX4_load_31 : decode cX4_load 31 = .ok (.iconst 0, 1) := by decide +kernel
theorem dX4_load_32 : decode cX4_load 32 = .ok (.istore_n 2, 1) := by decide +kernel
theorem dX4_load_33 : decode cX4_load 33 = .ok (.iload_n 2, 1) := by decide +kernel
theorem dX4_load_34 : decode cX4_load 34 = .ok (.aload_n 0, 1) := by decide +kernel
theorem dX4_load_35 : decode cX4_load 35 = .ok (.getfield 31, 3) := by decide +kernel
theorem dX4_load_38 : decode cX4_load 38 = .ok (.iload_n 1, 1) := by decide +kernel
theorem dX4_load_39 : decode cX4_load 39 = .ok (.iaload, 1) := by decide +kernel
theorem dX4_load_40 : decode cX4_load 40 = .ok (.if_icmp .ge 53, 3) := by decide +kernel
theorem dX4_load_43 : decode cX4_load 43 = .ok (.aload_n 0, 1) := by decide +kernel
theorem dX4_load_44 : decode cX4_load 44 = .ok (.iload_n 2, 1) := by decide +kernel
theorem dX4_load_45 : decode cX4_load 45 = .ok (.invokevirtual 101, 3) := by decide +kernel
theorem dX4_load_48 : decode cX4_load 48 = .ok (.ifCond .eq 45, 3) := by decide +kernel
theorem dX4_load_51 : decode cX4_load 51 = .ok (.aload_n 0, 1) := by decide +kernel
theorem dX4_load_52 : decode cX4_load 52 = .ok (.iload_n 2, 1) := by decide +kernel
theorem dX4_load_53 : decode cX4_load 53 = .ok (.aload_n 0, 1) := by decide +kernel
theorem dX4_load_54 : decode cX4_load 54 = .ok (.getfield 34, 3) := by decide +kernel
theorem dX4_load_57 : decode cX4_load 57 = .ok (.bipush 40, 2) := by decide +kernel
theorem dX4_load_59 : decode cX4_load 59 = .ok (.iload_n 1, 1) := by decide +kernel
theorem dX4_load_60 : decode cX4_load 60 = .ok (.imul, 1) := by decide +kernel
theorem dX4_load_61 : decode cX4_load 61 = .ok (.iload_n 2, 1) := by decide +kernel
theorem dX4_load_62 : decode cX4_load 62 = .ok (.iadd, 1) := by decide +kernel
theorem dX4_load_63 : decode cX4_load 63 = .ok (.iaload, 1) := by decide +kernel
theorem dX4_load_64 : decode cX4_load 64 = .ok (.invokevirtual 113, 3) := by decide +kernel
theorem dX4_load_67 : decode cX4_load 67 = .ok (.ifCond .eq 26, 3) := by decide +kernel
theorem dX4_load_70 : decode cX4_load 70 = .ok (.aload_n 0, 1) := by decide +kernel
theorem dX4_load_71 : decode cX4_load 71 = .ok (.iload_n 2, 1) := by decide +kernel
theorem dX4_load_72 : decode cX4_load 72 = .ok (.aload_n 0, 1) := by decide +kernel
theorem dX4_load_73 : decode cX4_load 73 = .ok (.getfield 34, 3) := by decide +kernel
theorem dX4_load_76 : decode cX4_load 76 = .ok (.bipush 40, 2) := by decide +kernel
theorem dX4_load_78 : decode cX4_load 78 = .ok (.iload_n 1, 1) := by decide +kernel
theorem dX4_load_79 : decode cX4_load 79 = .ok (.imul, 1) := by decide +kernel
theorem dX4_load_80 : decode cX4_load 80 = .ok (.iload_n 2, 1) := by decide +kernel
theorem dX4_load_81 : decode cX4_load 81 = .ok (.iadd, 1) := by decide +kernel
theorem dX4_load_82 : decode cX4_load 82 = .ok (.iaload, 1) := by decide +kernel
theorem dX4_load_83 : decode cX4_load 83 = .ok (.invokevirtual 116, 3) := by decide +kernel
theorem dX4_load_86 : decode cX4_load 86 = .ok (.pop, 1) := by decide +kernel
theorem dX4_load_87 : decode cX4_load 87 = .ok (.iinc 2 1, 3) := by decide +kernel
theorem dX4_load_90 : decode cX4_load 90 = .ok (.goto (-57), 3) := by decide +kernel
theorem dX4_load_93 : decode cX4_load 93 = .ok (.iload_n 2, 1) := by decide +kernel
theorem dX4_load_94 : decode cX4_load 94 = .ok (.ireturn, 1) := by decide +kernel
theorem dX4_judge_0 : decode cX4_judge 0 = .ok (.iload_n 1, 1) := by decide +kernel
theorem dX4_judge_1 : decode cX4_judge 1 = .ok (.invokestatic 306, 3) := by decide +kernel
theorem dX4_judge_4 : decode cX4_judge 4 = .ok (.ifCond .ne 10, 3) := by decide +kernel
theorem dX4_judge_7 : decode cX4_judge 7 = .ok (.aload_n 0, 1) := by decide +kernel
theorem dX4_judge_8 : decode cX4_judge 8 = .ok (.ldc 37, 2) := by decide +kernel
theorem dX4_judge_10 : decode cX4_judge 10 = .ok (.invokevirtual 39, 3) := by decide +kernel
theorem dX4_judge_13 : decode cX4_judge 13 = .ok (.ireturn, 1) := by decide +kernel
theorem dX4_judge_14 : decode cX4_judge 14 = .ok (.aload_n 0, 1) := by decide +kernel
theorem dX4_judge_15 : decode cX4_judge 15 = .ok (.getfield 28, 3) := by decide +kernel
theorem dX4_judge_18 : decode cX4_judge 18 = .ok (.iload_n 1, 1) := by decide +kernel
theorem dX4_judge_19 : decode cX4_judge 19 = .ok (.iaload, 1) := by decide +kernel
theorem dX4_judge_20 : decode cX4_judge 20 = .ok (.ifCond .ne 11, 3) := by decide +kernel
theorem dX4_judge_23 : decode cX4_judge 23 = .ok (.aload_n 0, 1) := by decide +kernel
theorem dX4_judge_24 : decode cX4_judge 24 = .ok (.ldc_w 301, 3) := by decide +kernel
theorem dX4_judge_27 : decode cX4_judge 27 = .ok (.invokevirtual 39, 3) := by decide +kernel
theorem dX4_judge_30 : decode cX4_judge 30 = .ok (.ireturn, 1) := by decide +kernel
theorem dX4_judge_31 : decode cX4_judge 31 = .ok (.aload_n 0, 1) := by decide +kernel
theorem dX4_judge_32 : decode cX4_judge 32 = .ok (.getfield 9, 3) := by decide +kernel
theorem dX4_judge_35 : decode cX4_judge 35 = .ok (.iconst 0, 1) := by decide +kernel
theorem dX4_judge_36 : decode cX4_judge 36 = .ok (.iaload, 1) := by decide +kernel
theorem dX4_judge_37 : decode cX4_judge 37 = .ok (.aload_n 0, 1) := by decide +kernel
theorem dX4_judge_38 : decode cX4_judge 38 = .ok (.getfield 31, 3) := by decide +kernel
theorem dX4_judge_41 : decode cX4_judge 41 = .ok (.iload_n 1, 1) := by decide +kernel
theorem dX4_judge_42 : decode cX4_judge 42 = .ok (.iaload, 1) := by decide +kernel
theorem dX4_judge_43 : decode cX4_judge 43 = .ok (.iadd, 1) := by decide +kernel
theorem dX4_judge_44 : decode cX4_judge 44 = .ok (.sipush 999, 3) := by decide +kernel
theorem dX4_judge_47 : decode cX4_judge 47 = .ok (.if_icmp .le 10, 3) := by decide +kernel
theorem dX4_judge_50 : decode cX4_judge 50 = .ok (.aload_n 0, 1) := by decide +kernel
theorem dX4_judge_51 : decode cX4_judge 51 = .ok (.ldc 67, 2) := by decide +kernel
theorem dX4_judge_53 : decode cX4_judge 53 = .ok (.invokevirtual 39, 3) := by decide +kernel
theorem dX4_judge_56 : decode cX4_judge 56 = .ok (.ireturn, 1) := by decide +kernel
theorem dX4_judge_57 : decode cX4_judge 57 = .ok (.aload_n 0, 1) := by decide +kernel
theorem dX4_judge_58 : decode cX4_judge 58 = .ok (.getfield 9, 3) := by decide +kernel
theorem dX4_judge_61 : decode cX4_judge 61 = .ok (.aload_n 0, 1) := by decide +kernel
theorem dX4_judge_62 : decode cX4_judge 62 = .ok (.getfield 16, 3) := by decide +kernel
theorem dX4_judge_65 : decode cX4_judge 65 = .ok (.invokestatic 165, 3) := by decide +kernel
theorem dX4_judge_68 : decode cX4_judge 68 = .ok (.iconst 0, 1) := by decide +kernel
theorem dX4_judge_69 : decode cX4_judge 69 = .ok (.istore_n 2, 1) := by decide +kernel
theorem dX4_judge_70 : decode cX4_judge 70 = .ok (.iconst 1, 1) := by decide +kernel
theorem dX4_judge_71 : decode cX4_judge 71 = .ok (.istore_n 3, 1) := by decide +kernel
theorem dX4_judge_72 : decode cX4_judge 72 = .ok (.iload_n 2, 1) := by decide +kernel
theorem dX4_judge_73 : decode cX4_judge 73 = .ok (.aload_n 0, 1) := by decide +kernel
theorem dX4_judge_74 : decode cX4_judge 74 = .ok (.getfield 31, 3) := by decide +kernel
theorem dX4_judge_77 : decode cX4_judge 77 = .ok (.iload_n 1, 1) := by decide +kernel
theorem dX4_judge_78 : decode cX4_judge 78 = .ok (.iaload, 1) := by decide +kernel
theorem dX4_judge_79 : decode cX4_judge 79 = .ok (.if_icmp .ge 51, 3) := by decide +kernel
theorem dX4_judge_82 : decode cX4_judge 82 = .ok (.iload_n 3, 1) := by decide +kernel
theorem dX4_judge_83 : decode cX4_judge 83 = .ok (.ifCond .eq 47, 3) := by decide +kernel
theorem dX4_judge_86 : decode cX4_judge 86 = .ok (.aload_n 0, 1) := by decide +kernel
theorem dX4_judge_87 : decode cX4_judge 87 = .ok (.invokevirtual 154, 3) := by decide +kernel
theorem dX4_judge_90 : decode cX4_judge 90 = .ok (.aload_n 0, 1) := by decide +kernel
theorem dX4_judge_91 : decode cX4_judge 91 = .ok (.iconst 0, 1) := by decide +kernel
theorem dX4_judge_92 : decode cX4_judge 92 = .ok (.invokevirtual 55, 3) := by decide +kernel
theorem dX4_judge_95 : decode cX4_judge 95 = .ok (.aload_n 0, 1) := by decide +kernel
theorem dX4_judge_96 : decode cX4_judge 96 = .ok (.getfield 34, 3) := by decide +kernel
theorem dX4_judge_99 : decode cX4_judge 99 = .ok (.bipush 40, 2) := by decide +kernel
theorem dX4_judge_101 : decode cX4_judge 101 = .ok (.iload_n 1, 1) := by decide +kernel
theorem dX4_judge_102 : decode cX4_judge 102 = .ok (.imul, 1) := by decide +kernel
theorem dX4_judge_103 : decode cX4_judge 103 = .ok (.iload_n 2, 1) := by decide +kernel
theorem dX4_judge_104 : decode cX4_judge 104 = .ok (.iadd, 1) := by decide +kernel
theorem dX4_judge_105 : decode cX4_judge 105 = .ok (.iaload, 1) := by decide +kernel
theorem dX4_judge_106 : decode cX4_judge 106 = .ok (.if_icmp .ne 7, 3) := by decide +kernel
theorem dX4_judge_109 : decode cX4_judge 109 = .ok (.iconst 1, 1) := by decide +kernel
theorem dX4_judge_110 : decode cX4_judge 110 = .ok (.goto 4, 3) := by decide +kernel
theorem dX4_judge_113 : decode cX4_judge 113 = .ok (.iconst 0, 1) := by decide +kernel
theorem dX4_judge_114 : decode cX4_judge 114 = .ok (.istore_n 3, 1) := by decide +kernel
theorem dX4_judge_115 : decode cX4_judge 115 = .ok (.iload_n 2, 1) := by decide +kernel
theorem dX4_judge_116 : decode cX4_judge 116 = .ok (.iload_n 3, 1) := by decide +kernel
theorem dX4_judge_117 : decode cX4_judge 117 = .ok (.ifCond .eq 7, 3) := by decide +kernel
theorem dX4_judge_120 : decode cX4_judge 120 = .ok (.iconst 1, 1) := by decide +kernel
theorem dX4_judge_121 : decode cX4_judge 121 = .ok (.goto 4, 3) := by decide +kernel
theorem dX4_judge_124 : decode cX4_judge 124 = .ok (.iconst 0, 1) := by decide +kernel
theorem dX4_judge_125 : decode cX4_judge 125 = .ok (.iadd, 1) := by decide +kernel
theorem dX4_judge_126 : decode cX4_judge 126 = .ok (.istore_n 2, 1) := by decide +kernel
theorem dX4_judge_127 : decode cX4_judge 127 = .ok (.goto (-55), 3) := by decide +kernel
theorem dX4_judge_130 : decode cX4_judge 130 = .ok (.aload_n 0, 1) := by decide +kernel
theorem dX4_judge_131 : decode cX4_judge 131 = .ok (.getfield 16, 3) := by decide +kernel
theorem dX4_judge_134 : decode cX4_judge 134 = .ok (.aload_n 0, 1) := by decide +kernel
theorem dX4_judge_135 : decode cX4_judge 135 = .ok (.getfield 9, 3) := by decide +kernel
theorem dX4_judge_138 : decode cX4_judge 138 = .ok (.invokestatic 165, 3) := by decide +kernel
theorem dX4_judge_141 : decode cX4_judge 141 = .ok (.iload_n 2, 1) := by decide +kernel
theorem dX4_judge_142 : decode cX4_judge 142 = .ok (.aload_n 0, 1) := by decide +kernel
theorem dX4_judge_143 : decode cX4_judge 143 = .ok (.getfield 31, 3) := by decide +kernel
theorem dX4_judge_146 : decode cX4_judge 146 = .ok (.iload_n 1, 1) := by decide +kernel
theorem dX4_judge_147 : decode cX4_judge 147 = .ok (.iaload, 1) := by decide +kernel
theorem dX4_judge_148 : decode cX4_judge 148 = .ok (.if_icmp .ne 7, 3) := by decide +kernel
theorem dX4_judge_151 : decode cX4_judge 151 = .ok (.iconst 0, 1) := by decide +kernel
theorem dX4_judge_152 : decode cX4_judge 152 = .ok (.goto 6, 3) := by decide +kernel
theorem dX4_judge_155 : decode cX4_judge 155 = .ok (.iconst 1, 1) := by decide +kernel
theorem dX4_judge_156 : decode cX4_judge 156 = .ok (.iload_n 2, 1) := by decide +kernel
theorem dX4_judge_157 : decode cX4_judge 157 = .ok (.iadd, 1) := by decide +kernel
theorem dX4_judge_158 : decode cX4_judge 158 = .ok (.ireturn, 1) := by decide +kernel
theorem dX4_image_0 : decode cX4_image 0 = .ok (.aload_n 0, 1) := by decide +kernel
theorem dX4_image_1 : decode cX4_image 1 = .ok (.getfield 9, 3) := by decide +kernel
theorem dX4_image_4 : decode cX4_image 4 = .ok (.aload_n 0, 1) := by decide +kernel
theorem dX4_image_5 : decode cX4_image 5 = .ok (.getfield 13, 3) := by decide +kernel
theorem dX4_image_8 : decode cX4_image 8 = .ok (.invokestatic 165, 3) := by decide +kernel
theorem dX4_image_11 : decode cX4_image 11 = .ok (.aload_n 0, 1) := by decide +kernel
theorem dX4_image_12 : decode cX4_image 12 = .ok (.iconst 1, 1) := by decide +kernel
theorem dX4_image_13 : decode cX4_image 13 = .ok (.putfield 309, 3) := by decide +kernel
theorem dX4_image_16 : decode cX4_image 16 = .ok (.iconst 1, 1) := by decide +kernel
theorem dX4_image_17 : decode cX4_image 17 = .ok (.ireturn, 1) := by decide +kernel
theorem dX4_back_0 : decode cX4_back 0 = .ok (.aload_n 0, 1) := by decide +kernel
theorem dX4_back_1 : decode cX4_back 1 = .ok (.getfield 309, 3) := by decide +kernel
theorem dX4_back_4 : decode cX4_back 4 = .ok (.ifCond .ne 10, 3) := by decide +kernel
theorem dX4_back_7 : decode cX4_back 7 = .ok (.aload_n 0, 1) := by decide +kernel
theorem dX4_back_8 : decode cX4_back 8 = .ok (.ldc 38, 2) := by decide +kernel
theorem dX4_back_10 : decode cX4_back 10 = .ok (.invokevirtual 39, 3) := by decide +kernel
theorem dX4_back_13 : decode cX4_back 13 = .ok (.ireturn, 1) := by decide +kernel
theorem dX4_back_14 : decode cX4_back 14 = .ok (.aload_n 0, 1) := by decide +kernel
theorem dX4_back_15 : decode cX4_back 15 = .ok (.getfield 13, 3) := by decide +kernel
theorem dX4_back_18 : decode cX4_back 18 = .ok (.aload_n 0, 1) := by decide +kernel
theorem dX4_back_19 : decode cX4_back 19 = .ok (.getfield 9, 3) := by decide +kernel
theorem dX4_back_22 : decode cX4_back 22 = .ok (.invokestatic 165, 3) := by decide +kernel
theorem dX4_back_25 : decode cX4_back 25 = .ok (.aload_n 0, 1) := by decide +kernel
theorem dX4_back_26 : decode cX4_back 26 = .ok (.getfield 9, 3) := by decide +kernel
theorem dX4_back_29 : decode cX4_back 29 = .ok (.iconst 0, 1) := by decide +kernel
theorem dX4_back_30 : decode cX4_back 30 = .ok (.iaload, 1) := by decide +kernel
theorem dX4_back_31 : decode cX4_back 31 = .ok (.ireturn, 1) := by decide +kernel
theorem dX4_tear_0 : decode cX4_tear 0 = .ok (.aload_n 0, 1) := by decide +kernel
theorem dX4_tear_1 : decode cX4_tear 1 = .ok (.getfield 309, 3) := by decide +kernel
theorem dX4_tear_4 : decode cX4_tear 4 = .ok (.ifCond .eq 7, 3) := by decide +kernel
theorem dX4_tear_7 : decode cX4_tear 7 = .ok (.iconst 1, 1) := by decide +kernel
theorem dX4_tear_8 : decode cX4_tear 8 = .ok (.goto 4, 3) := by decide +kernel
theorem dX4_tear_11 : decode cX4_tear 11 = .ok (.iconst 0, 1) := by decide +kernel
theorem dX4_tear_12 : decode cX4_tear 12 = .ok (.istore_n 1, 1) := by decide +kernel
theorem dX4_tear_13 : decode cX4_tear 13 = .ok (.aload_n 0, 1) := by decide +kernel
theorem dX4_tear_14 : decode cX4_tear 14 = .ok (.iconst 0, 1) := by decide +kernel
theorem dX4_tear_15 : decode cX4_tear 15 = .ok (.putfield 309, 3) := by decide +kernel
theorem dX4_tear_18 : decode cX4_tear 18 = .ok (.iload_n 1, 1) := by decide +kernel
theorem dX4_tear_19 : decode cX4_tear 19 = .ok (.ireturn, 1) := by decide +kernel
theorem dX4_count_0 : decode cX4_count 0 = .ok (.iload_n 1, 1) := by decide +kernel
theorem dX4_count_1 : decode cX4_count 1 = .ok (.tableswitch 104 0 7 #[47, 54, 62, 71, 78, 87, 92, 97], 47) := by decide +kernel
theorem dX4_count_48 : decode cX4_count 48 = .ok (.aload_n 0, 1) := by decide +kernel
theorem dX4_count_49 : decode cX4_count 49 = .ok (.getfield 9, 3) := by decide +kernel
theorem dX4_count_52 : decode cX4_count 52 = .ok (.iconst 0, 1) := by decide +kernel
theorem dX4_count_53 : decode cX4_count 53 = .ok (.iaload, 1) := by decide +kernel
theorem dX4_count_54 : decode cX4_count 54 = .ok (.ireturn, 1) := by decide +kernel
theorem dX4_count_55 : decode cX4_count 55 = .ok (.aload_n 0, 1) := by decide +kernel
theorem dX4_count_56 : decode cX4_count 56 = .ok (.getfield 9, 3) := by decide +kernel
theorem dX4_count_59 : decode cX4_count 59 = .ok (.bipush 6, 2) := by decide +kernel
theorem dX4_count_61 : decode cX4_count 61 = .ok (.iaload, 1) := by decide +kernel
theorem dX4_count_62 : decode cX4_count 62 = .ok (.ireturn, 1) := by decide +kernel
theorem dX4_count_63 : decode cX4_count 63 = .ok (.aload_n 0, 1) := by decide +kernel
theorem dX4_count_64 : decode cX4_count 64 = .ok (.iconst (-1), 1) := by decide +kernel
theorem dX4_count_65 : decode cX4_count 65 = .ok (.invokevirtual 55, 3) := by decide +kernel
theorem dX4_count_68 : decode cX4_count 68 = .ok (.invokestatic 58, 3) := by decide +kernel
theorem dX4_count_71 : decode cX4_count 71 = .ok (.ireturn, 1) := by decide +kernel
theorem dX4_count_72 : decode cX4_count 72 = .ok (.aload_n 0, 1) := by decide +kernel
theorem dX4_count_73 : decode cX4_count 73 = .ok (.getfield 9, 3) := by decide +kernel
theorem dX4_count_76 : decode cX4_count 76 = .ok (.iconst 4, 1) := by decide +kernel
theorem dX4_count_77 : decode cX4_count 77 = .ok (.iaload, 1) := by decide +kernel
theorem dX4_count_78 : decode cX4_count 78 = .ok (.ireturn, 1) := by decide +kernel
theorem dX4_count_79 : decode cX4_count 79 = .ok (.aload_n 0, 1) := by decide +kernel
theorem dX4_count_80 : decode cX4_count 80 = .ok (.aload_n 0, 1) := by decide +kernel
theorem dX4_count_81 : decode cX4_count 81 = .ok (.invokevirtual 169, 3) := by decide +kernel
theorem dX4_count_84 : decode cX4_count 84 = .ok (.invokevirtual 78, 3) := by decide +kernel
theorem dX4_count_87 : decode cX4_count 87 = .ok (.ireturn, 1) := by decide +kernel
theorem dX4_count_88 : decode cX4_count 88 = .ok (.aload_n 0, 1) := by decide +kernel
theorem dX4_count_89 : decode cX4_count 89 = .ok (.invokevirtual 195, 3) := by decide +kernel
theorem dX4_count_92 : decode cX4_count 92 = .ok (.ireturn, 1) := by decide +kernel
theorem dX4_count_93 : decode cX4_count 93 = .ok (.aload_n 0, 1) := by decide +kernel
theorem dX4_count_94 : decode cX4_count 94 = .ok (.getfield 198, 3) := by decide +kernel
theorem dX4_count_97 : decode cX4_count 97 = .ok (.ireturn, 1) := by decide +kernel
theorem dX4_count_98 : decode cX4_count 98 = .ok (.aload_n 0, 1) := by decide +kernel
theorem dX4_count_99 : decode cX4_count 99 = .ok (.getfield 9, 3) := by decide +kernel
theorem dX4_count_102 : decode cX4_count 102 = .ok (.iconst 5, 1) := by decide +kernel
theorem dX4_count_103 : decode cX4_count 103 = .ok (.iaload, 1) := by decide +kernel
theorem dX4_count_104 : decode cX4_count 104 = .ok (.ireturn, 1) := by decide +kernel
theorem dX4_count_105 : decode cX4_count 105 = .ok (.aload_n 0, 1) := by decide +kernel
theorem dX4_count_106 : decode cX4_count 106 = .ok (.ldc 37, 2) := by decide +kernel
theorem dX4_count_108 : decode cX4_count 108 = .ok (.invokevirtual 39, 3) := by decide +kernel
theorem dX4_count_111 : decode cX4_count 111 = .ok (.ireturn, 1) := by decide +kernel
theorem dX4_status_0 : decode cX4_status 0 = .ok (.iload_n 1, 1) := by decide +kernel
theorem dX4_status_1 : decode cX4_status 1 = .ok (.i2l, 1) := by decide +kernel
theorem dX4_status_2 : decode cX4_status 2 = .ok (.ldc2_w 312, 3) := by decide +kernel
theorem dX4_status_5 : decode cX4_status 5 = .ok (.ldc2_w 49, 3) := by decide +kernel
theorem dX4_status_8 : decode cX4_status 8 = .ok (.invokestatic 45, 3) := by decide +kernel
theorem dX4_status_11 : decode cX4_status 11 = .ok (.ifCond .ne 10, 3) := by decide +kernel
theorem dX4_status_14 : decode cX4_status 14 = .ok (.aload_n 0, 1) := by decide +kernel
theorem dX4_status_15 : decode cX4_status 15 = .ok (.ldc 37, 2) := by decide +kernel
theorem dX4_status_17 : decode cX4_status 17 = .ok (.invokevirtual 39, 3) := by decide +kernel
theorem dX4_status_20 : decode cX4_status 20 = .ok (.ireturn, 1) := by decide +kernel
theorem dX4_status_21 : decode cX4_status 21 = .ok (.iconst 0, 1) := by decide +kernel
theorem dX4_status_22 : decode cX4_status 22 = .ok (.istore_n 2, 1) := by decide +kernel
theorem dX4_status_23 : decode cX4_status 23 = .ok (.iconst 0, 1) := by decide +kernel
theorem dX4_status_24 : decode cX4_status 24 = .ok (.istore_n 3, 1) := by decide +kernel
theorem dX4_status_25 : decode cX4_status 25 = .ok (.iload_n 3, 1) := by decide +kernel
theorem dX4_status_26 : decode cX4_status 26 = .ok (.bipush 7, 2) := by decide +kernel
theorem dX4_status_28 : decode cX4_status 28 = .ok (.if_icmp .ge 31, 3) := by decide +kernel
theorem dX4_status_31 : decode cX4_status 31 = .ok (.iload_n 2, 1) := by decide +kernel
theorem dX4_status_32 : decode cX4_status 32 = .ok (.iload_n 1, 1) := by decide +kernel
theorem dX4_status_33 : decode cX4_status 33 = .ok (.ifCond .lt 8, 3) := by decide +kernel
theorem dX4_status_36 : decode cX4_status 36 = .ok (.iload_n 1, 1) := by decide +kernel
theorem dX4_status_37 : decode cX4_status 37 = .ok (.iload_n 3, 1) := by decide +kernel
theorem dX4_status_38 : decode cX4_status 38 = .ok (.if_icmp .ne 12, 3) := by decide +kernel
theorem dX4_status_41 : decode cX4_status 41 = .ok (.aload_n 0, 1) := by decide +kernel
theorem dX4_status_42 : decode cX4_status 42 = .ok (.getfield 22, 3) := by decide +kernel
theorem dX4_status_45 : decode cX4_status 45 = .ok (.iload_n 3, 1) := by decide +kernel
theorem dX4_status_46 : decode cX4_status 46 = .ok (.iaload, 1) := by decide +kernel
theorem dX4_status_47 : decode cX4_status 47 = .ok (.goto 4, 3) := by decide +kernel
theorem dX4_status_50 : decode cX4_status 50 = .ok (.iconst 0, 1) := by decide +kernel
theorem dX4_status_51 : decode cX4_status 51 = .ok (.iadd, 1) := by decide +kernel
theorem dX4_status_52 : decode cX4_status 52 = .ok (.istore_n 2, 1) := by decide +kernel
theorem dX4_status_53 : decode cX4_status 53 = .ok (.iinc 3 1, 3) := by decide +kernel
theorem dX4_status_56 : decode cX4_status 56 = .ok (.goto (-31), 3) := by decide +kernel
theorem dX4_status_59 : decode cX4_status 59 = .ok (.iload_n 2, 1) := by decide +kernel
theorem dX4_status_60 : decode cX4_status 60 = .ok (.ireturn, 1) := by decide +kernel

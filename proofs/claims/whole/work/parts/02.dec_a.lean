theorem dX0_init_0 : decode cX0_init 0 = .ok (.aload_n 0, 1) := by decide +kernel
theorem dX0_init_1 : decode cX0_init 1 = .ok (.invokespecial 3, 3) := by decide +kernel
theorem dX0_init_4 : decode cX0_init 4 = .ok (.aload_n 0, 1) := by decide +kernel
theorem dX0_init_5 : decode cX0_init 5 = .ok (.bipush 12, 2) := by decide +kernel
theorem dX0_init_7 : decode cX0_init 7 = .ok (.newarray .int, 2) := by decide +kernel
theorem dX0_init_9 : decode cX0_init 9 = .ok (.putfield 9, 3) := by decide +kernel
theorem dX0_init_12 : decode cX0_init 12 = .ok (.aload_n 0, 1) := by decide +kernel
theorem dX0_init_13 : decode cX0_init 13 = .ok (.bipush 12, 2) := by decide +kernel
theorem dX0_init_15 : decode cX0_init 15 = .ok (.newarray .int, 2) := by decide +kernel
theorem dX0_init_17 : decode cX0_init 17 = .ok (.putfield 15, 3) := by decide +kernel
theorem dX0_init_20 : decode cX0_init 20 = .ok (.aload_n 0, 1) := by decide +kernel
theorem dX0_init_21 : decode cX0_init 21 = .ok (.bipush 12, 2) := by decide +kernel
theorem dX0_init_23 : decode cX0_init 23 = .ok (.newarray .int, 2) := by decide +kernel
theorem dX0_init_25 : decode cX0_init 25 = .ok (.putfield 18, 3) := by decide +kernel
theorem dX0_init_28 : decode cX0_init 28 = .ok (.aload_n 0, 1) := by decide +kernel
theorem dX0_init_29 : decode cX0_init 29 = .ok (.bipush 12, 2) := by decide +kernel
theorem dX0_init_31 : decode cX0_init 31 = .ok (.newarray .int, 2) := by decide +kernel
theorem dX0_init_33 : decode cX0_init 33 = .ok (.putfield 21, 3) := by decide +kernel
theorem dX0_init_36 : decode cX0_init 36 = .ok (.aload_n 0, 1) := by decide +kernel
theorem dX0_init_37 : decode cX0_init 37 = .ok (.bipush 12, 2) := by decide +kernel
theorem dX0_init_39 : decode cX0_init 39 = .ok (.newarray .int, 2) := by decide +kernel
theorem dX0_init_41 : decode cX0_init 41 = .ok (.putfield 24, 3) := by decide +kernel
theorem dX0_init_44 : decode cX0_init 44 = .ok (.aload_n 0, 1) := by decide +kernel
theorem dX0_init_45 : decode cX0_init 45 = .ok (.bipush 12, 2) := by decide +kernel
theorem dX0_init_47 : decode cX0_init 47 = .ok (.newarray .int, 2) := by decide +kernel
theorem dX0_init_49 : decode cX0_init 49 = .ok (.putfield 27, 3) := by decide +kernel
theorem dX0_init_52 : decode cX0_init 52 = .ok (.aload_n 0, 1) := by decide +kernel
theorem dX0_init_53 : decode cX0_init 53 = .ok (.bipush 12, 2) := by decide +kernel
theorem dX0_init_55 : decode cX0_init 55 = .ok (.newarray .int, 2) := by decide +kernel
theorem dX0_init_57 : decode cX0_init 57 = .ok (.putfield 30, 3) := by decide +kernel
theorem dX0_init_60 : decode cX0_init 60 = .ok (.aload_n 0, 1) := by decide +kernel
theorem dX0_init_61 : decode cX0_init 61 = .ok (.bipush 8, 2) := by decide +kernel
theorem dX0_init_63 : decode cX0_init 63 = .ok (.newarray .int, 2) := by decide +kernel
theorem dX0_init_65 : decode cX0_init 65 = .ok (.putfield 33, 3) := by decide +kernel
theorem dX0_init_68 : decode cX0_init 68 = .ok (.aload_n 0, 1) := by decide +kernel
theorem dX0_init_69 : decode cX0_init 69 = .ok (.bipush 8, 2) := by decide +kernel
theorem dX0_init_71 : decode cX0_init 71 = .ok (.newarray .int, 2) := by decide +kernel
theorem dX0_init_73 : decode cX0_init 73 = .ok (.putfield 36, 3) := by decide +kernel
theorem dX0_init_76 : decode cX0_init 76 = .ok (.aload_n 0, 1) := by decide +kernel
theorem dX0_init_77 : decode cX0_init 77 = .ok (.iconst 3, 1) := by decide +kernel
theorem dX0_init_78 : decode cX0_init 78 = .ok (.newarray .int, 2) := by decide +kernel
theorem dX0_init_80 : decode cX0_init 80 = .ok (.putfield 39, 3) := by decide +kernel
theorem dX0_init_83 : decode cX0_init 83 = .ok (.aload_n 0, 1) := by decide +kernel
theorem dX0_init_84 : decode cX0_init 84 = .ok (.bipush 10, 2) := by decide +kernel
theorem dX0_init_86 : decode cX0_init 86 = .ok (.newarray .int, 2) := by decide +kernel
theorem dX0_init_88 : decode cX0_init 88 = .ok (.putfield 42, 3) := by decide +kernel
theorem dX0_init_91 : decode cX0_init 91 = .ok (.aload_n 0, 1) := by decide +kernel
theorem dX0_init_92 : decode cX0_init 92 = .ok (.iconst 1, 1) := by decide +kernel
theorem dX0_init_93 : decode cX0_init 93 = .ok (.putfield 45, 3) := by decide +kernel
theorem dX0_init_96 : decode cX0_init 96 = .ok (.iconst 0, 1) := by decide +kernel
theorem dX0_init_97 : decode cX0_init 97 = .ok (.istore_n 1, 1) := by decide +kernel
theorem dX0_init_98 : decode cX0_init 98 = .ok (.iload_n 1, 1) := by decide +kernel
theorem dX0_init_99 : decode cX0_init 99 = .ok (.bipush 8, 2) := by decide +kernel
theorem dX0_init_101 : decode cX0_init 101 = .ok (.if_icmp .ge 16, 3) := by decide +kernel
theorem dX0_init_104 : decode cX0_init 104 = .ok (.aload_n 0, 1) := by decide +kernel
theorem dX0_init_105 : decode cX0_init 105 = .ok (.getfield 33, 3) := by decide +kernel
theorem dX0_init_108 : decode cX0_init 108 = .ok (.iload_n 1, 1) := by decide +kernel
theorem dX0_init_109 : decode cX0_init 109 = .ok (.iconst 3, 1) := by decide +kernel
theorem dX0_init_110 : decode cX0_init 110 = .ok (.iastore, 1) := by decide +kernel
theorem dX0_init_111 : decode cX0_init 111 = .ok (.iinc 1 1, 3) := by decide +kernel
theorem dX0_init_114 : decode cX0_init 114 = .ok (.goto (-16), 3) := by decide +kernel
theorem dX0_init_117 : decode cX0_init 117 = .ok (.iconst 0, 1) := by decide +kernel
theorem dX0_init_118 : decode cX0_init 118 = .ok (.istore_n 1, 1) := by decide +kernel
theorem dX0_init_119 : decode cX0_init 119 = .ok (.iload_n 1, 1) := by decide +kernel
theorem dX0_init_120 : decode cX0_init 120 = .ok (.iconst 3, 1) := by decide +kernel
theorem dX0_init_121 : decode cX0_init 121 = .ok (.if_icmp .ge 20, 3) := by decide +kernel
theorem dX0_init_124 : decode cX0_init 124 = .ok (.aload_n 0, 1) := by decide +kernel
theorem dX0_init_125 : decode cX0_init 125 = .ok (.getfield 39, 3) := by decide +kernel
theorem dX0_init_128 : decode cX0_init 128 = .ok (.iload_n 1, 1) := by decide +kernel
theorem dX0_init_129 : decode cX0_init 129 = .ok (.getstatic 49, 3) := by decide +kernel
theorem dX0_init_132 : decode cX0_init 132 = .ok (.iload_n 1, 1) := by decide +kernel
theorem dX0_init_133 : decode cX0_init 133 = .ok (.iaload, 1) := by decide +kernel
theorem dX0_init_134 : decode cX0_init 134 = .ok (.iastore, 1) := by decide +kernel
theorem dX0_init_135 : decode cX0_init 135 = .ok (.iinc 1 1, 3) := by decide +kernel
theorem dX0_init_138 : decode cX0_init 138 = .ok (.goto (-19), 3) := by decide +kernel
theorem dX0_init_141 : decode cX0_init 141 = .ok (.iconst 0, 1) := by decide +kernel
theorem dX0_init_142 : decode cX0_init 142 = .ok (.istore_n 1, 1) := by decide +kernel
theorem dX0_init_143 : decode cX0_init 143 = .ok (.iload_n 1, 1) := by decide +kernel
theorem dX0_init_144 : decode cX0_init 144 = .ok (.bipush 10, 2) := by decide +kernel
theorem dX0_init_146 : decode cX0_init 146 = .ok (.if_icmp .ge 16, 3) := by decide +kernel
theorem dX0_init_149 : decode cX0_init 149 = .ok (.aload_n 0, 1) := by decide +kernel
theorem dX0_init_150 : decode cX0_init 150 = .ok (.getfield 42, 3) := by decide +kernel
theorem dX0_init_153 : decode cX0_init 153 = .ok (.iload_n 1, 1) := by decide +kernel
theorem dX0_init_154 : decode cX0_init 154 = .ok (.iconst (-1), 1) := by decide +kernel
theorem dX0_init_155 : decode cX0_init 155 = .ok (.iastore, 1) := by decide +kernel
theorem dX0_init_156 : decode cX0_init 156 = .ok (.iinc 1 1, 3) := by decide +kernel
theorem dX0_init_159 : decode cX0_init 159 = .ok (.goto (-16), 3) := by decide +kernel
theorem dX0_init_162 : decode cX0_init 162 = .ok (.return_, 1) := by decide +kernel
theorem dX0_becomeLike_0 : decode cX0_becomeLike 0 = .ok (.aload_n 1, 1) := by decide +kernel
theorem dX0_becomeLike_1 : decode cX0_becomeLike 1 = .ok (.getfield 9, 3) := by decide +kernel
theorem dX0_becomeLike_4 : decode cX0_becomeLike 4 = .ok (.iconst 0, 1) := by decide +kernel
theorem dX0_becomeLike_5 : decode cX0_becomeLike 5 = .ok (.aload_n 0, 1) := by decide +kernel
theorem dX0_becomeLike_6 : decode cX0_becomeLike 6 = .ok (.getfield 9, 3) := by decide +kernel
theorem dX0_becomeLike_9 : decode cX0_becomeLike 9 = .ok (.iconst 0, 1) := by decide +kernel
theorem dX0_becomeLike_10 : decode cX0_becomeLike 10 = .ok (.bipush 12, 2) := by decide +kernel
theorem dX0_becomeLike_12 : decode cX0_becomeLike 12 = .ok (.invokestatic 52, 3) := by decide +kernel
theorem dX0_becomeLike_15 : decode cX0_becomeLike 15 = .ok (.aload_n 1, 1) := by decide +kernel
theorem dX0_becomeLike_16 : decode cX0_becomeLike 16 = .ok (.getfield 15, 3) := by decide +kernel
theorem dX0_becomeLike_19 : decode cX0_becomeLike 19 = .ok (.iconst 0, 1) := by decide +kernel
theorem dX0_becomeLike_20 : decode cX0_becomeLike 20 = .ok (.aload_n 0, 1) := by decide +kernel
theorem dX0_becomeLike_21 : decode cX0_becomeLike 21 = .ok (.getfield 15, 3) := by decide +kernel
theorem dX0_becomeLike_24 : decode cX0_becomeLike 24 = .ok (.iconst 0, 1) := by decide +kernel
theorem dX0_becomeLike_25 : decode cX0_becomeLike 25 = .ok (.bipush 12, 2) := by decide +kernel
theorem dX0_becomeLike_27 : decode cX0_becomeLike 27 = .ok (.invokestatic 52, 3) := by decide +kernel
theorem dX0_becomeLike_30 : decode cX0_becomeLike 30 = .ok (.aload_n 1, 1) := by decide +kernel
theorem dX0_becomeLike_31 : decode cX0_becomeLike 31 = .ok (.getfield 18, 3) := by decide +kernel
theorem dX0_becomeLike_34 : decode cX0_becomeLike 34 = .ok (.iconst 0, 1) := by decide +kernel
theorem dX0_becomeLike_35 : decode cX0_becomeLike 35 = .ok (.aload_n 0, 1) := by decide +kernel
theorem dX0_becomeLike_36 : decode cX0_becomeLike 36 = .ok (.getfield 18, 3) := by decide +kernel
theorem dX0_becomeLike_39 : decode cX0_becomeLike 39 = .ok (.iconst 0, 1) := by decide +kernel
theorem dX0_becomeLike_40 : decode cX0_becomeLike 40 = .ok (.bipush 12, 2) := by decide +kernel
theorem dX0_becomeLike_42 : decode cX0_becomeLike 42 = .ok (.invokestatic 52, 3) := by decide +kernel
theorem dX0_becomeLike_45 : decode cX0_becomeLike 45 = .ok (.aload_n 1, 1) := by decide +kernel
theorem dX0_becomeLike_46 : decode cX0_becomeLike 46 = .ok (.getfield 21, 3) := by decide +kernel
theorem dX0_becomeLike_49 : decode cX0_becomeLike 49 = .ok (.iconst 0, 1) := by decide +kernel
theorem dX0_becomeLike_50 : decode cX0_becomeLike 50 = .ok (.aload_n 0, 1) := by decide +kernel
theorem dX0_becomeLike_51 : decode cX0_becomeLike 51 = .ok (.getfield 21, 3) := by decide +kernel
theorem dX0_becomeLike_54 : decode cX0_becomeLike 54 = .ok (.iconst 0, 1) := by decide +kernel
theorem dX0_becomeLike_55 : decode cX0_becomeLike 55 = .ok (.bipush 12, 2) := by decide +kernel
theorem dX0_becomeLike_57 : decode cX0_becomeLike 57 = .ok (.invokestatic 52, 3) := by decide +kernel
theorem dX0_becomeLike_60 : decode cX0_becomeLike 60 = .ok (.aload_n 1, 1) := by decide +kernel
theorem dX0_becomeLike_61 : decode cX0_becomeLike 61 = .ok (.getfield 24, 3) := by decide +kernel
theorem dX0_becomeLike_64 : decode cX0_becomeLike 64 = .ok (.iconst 0, 1) := by decide +kernel
theorem dX0_becomeLike_65 : decode cX0_becomeLike 65 = .ok (.aload_n 0, 1) := by decide +kernel
theorem dX0_becomeLike_66 : decode cX0_becomeLike 66 = .ok (.getfield 24, 3) := by decide +kernel
theorem dX0_becomeLike_69 : decode cX0_becomeLike 69 = .ok (.iconst 0, 1) := by decide +kernel
theorem dX0_becomeLike_70 : decode cX0_becomeLike 70 = .ok (.bipush 12, 2) := by decide +kernel
theorem dX0_becomeLike_72 : decode cX0_becomeLike 72 = .ok (.invokestatic 52, 3) := by decide +kernel
theorem dX0_becomeLike_75 : decode cX0_becomeLike 75 = .ok (.aload_n 1, 1) := by decide +kernel
theorem dX0_becomeLike_76 : decode cX0_becomeLike 76 = .ok (.getfield 27, 3) := by decide +kernel
theorem dX0_becomeLike_79 : decode cX0_becomeLike 79 = .ok (.iconst 0, 1) := by decide +kernel
theorem dX0_becomeLike_80 : decode cX0_becomeLike 80 = .ok (.aload_n 0, 1) := by decide +kernel
theorem dX0_becomeLike_81 : decode cX0_becomeLike 81 = .ok (.getfield 27, 3) := by decide +kernel
theorem dX0_becomeLike_84 : decode cX0_becomeLike 84 = .ok (.iconst 0, 1) := by decide +kernel
theorem dX0_becomeLike_85 : decode cX0_becomeLike 85 = .ok (.bipush 12, 2) := by decide +kernel
theorem dX0_becomeLike_87 : decode cX0_becomeLike 87 = .ok (.invokestatic 52, 3) := by decide +kernel
theorem dX0_becomeLike_90 : decode cX0_becomeLike 90 = .ok (.aload_n 1, 1) := by decide +kernel
theorem dX0_becomeLike_91 : decode cX0_becomeLike 91 = .ok (.getfield 30, 3) := by decide +kernel
theorem dX0_becomeLike_94 : decode cX0_becomeLike 94 = .ok (.iconst 0, 1) := by decide +kernel
theorem dX0_becomeLike_95 : decode cX0_becomeLike 95 = .ok (.aload_n 0, 1) := by decide +kernel
theorem dX0_becomeLike_96 : decode cX0_becomeLike 96 = .ok (.getfield 30, 3) := by decide +kernel
theorem dX0_becomeLike_99 : decode cX0_becomeLike 99 = .ok (.iconst 0, 1) := by decide +kernel
theorem dX0_becomeLike_100 : decode cX0_becomeLike 100 = .ok (.bipush 12, 2) := by decide +kernel
theorem dX0_becomeLike_102 : decode cX0_becomeLike 102 = .ok (.invokestatic 52, 3) := by decide +kernel
theorem dX0_becomeLike_105 : decode cX0_becomeLike 105 = .ok (.aload_n 1, 1) := by decide +kernel
theorem dX0_becomeLike_106 : decode cX0_becomeLike 106 = .ok (.getfield 33, 3) := by decide +kernel
theorem dX0_becomeLike_109 : decode cX0_becomeLike 109 = .ok (.iconst 0, 1) := by decide +kernel
theorem dX0_becomeLike_110 : decode cX0_becomeLike 110 = .ok (.aload_n 0, 1) := by decide +kernel
theorem dX0_becomeLike_111 : decode cX0_becomeLike 111 = .ok (.getfield 33, 3) := by decide +kernel
theorem dX0_becomeLike_114 : decode cX0_becomeLike 114 = .ok (.iconst 0, 1) := by decide +kernel
theorem dX0_becomeLike_115 : decode cX0_becomeLike 115 = .ok (.bipush 8, 2) := by decide +kernel
theorem dX0_becomeLike_117 : decode cX0_becomeLike 117 = .ok (.invokestatic 52, 3) := by decide +kernel
theorem dX0_becomeLike_120 : decode cX0_becomeLike 120 = .ok (.aload_n 1, 1) := by decide +kernel
theorem dX0_becomeLike_121 : decode cX0_becomeLike 121 = .ok (.getfield 36, 3) := by decide +kernel
theorem dX0_becomeLike_124 : decode cX0_becomeLike 124 = .ok (.iconst 0, 1) := by decide +kernel
theorem dX0_becomeLike_125 : decode cX0_becomeLike 125 = .ok (.aload_n 0, 1) := by decide +kernel
theorem dX0_becomeLike_126 : decode cX0_becomeLike 126 = .ok (.getfield 36, 3) := by decide +kernel
theorem dX0_becomeLike_129 : decode cX0_becomeLike 129 = .ok (.iconst 0, 1) := by decide +kernel
theorem dX0_becomeLike_130 : decode cX0_becomeLike 130 = .ok (.bipush 8, 2) := by decide +kernel
theorem dX0_becomeLike_132 : decode cX0_becomeLike 132 = .ok (.invokestatic 52, 3) := by decide +kernel
theorem dX0_becomeLike_135 : decode cX0_becomeLike 135 = .ok (.aload_n 1, 1) := by decide +kernel
theorem dX0_becomeLike_136 : decode cX0_becomeLike 136 = .ok (.getfield 39, 3) := by decide +kernel
theorem dX0_becomeLike_139 : decode cX0_becomeLike 139 = .ok (.iconst 0, 1) := by decide +kernel
theorem dX0_becomeLike_140 : decode cX0_becomeLike 140 = .ok (.aload_n 0, 1) := by decide +kernel
theorem dX0_becomeLike_141 : decode cX0_becomeLike 141 = .ok (.getfield 39, 3) := by decide +kernel
theorem dX0_becomeLike_144 : decode cX0_becomeLike 144 = .ok (.iconst 0, 1) := by decide +kernel
theorem dX0_becomeLike_145 : decode cX0_becomeLike 145 = .ok (.iconst 3, 1) := by decide +kernel
theorem dX0_becomeLike_146 : decode cX0_becomeLike 146 = .ok (.invokestatic 52, 3) := by decide +kernel
theorem dX0_becomeLike_149 : decode cX0_becomeLike 149 = .ok (.aload_n 1, 1) := by decide +kernel
theorem dX0_becomeLike_150 : decode cX0_becomeLike 150 = .ok (.getfield 42, 3) := by decide +kernel
theorem dX0_becomeLike_153 : decode cX0_becomeLike 153 = .ok (.iconst 0, 1) := by decide +kernel
theorem dX0_becomeLike_154 : decode cX0_becomeLike 154 = .ok (.aload_n 0, 1) := by decide +kernel
theorem dX0_becomeLike_155 : decode cX0_becomeLike 155 = .ok (.getfield 42, 3) := by decide +kernel
theorem dX0_becomeLike_158 : decode cX0_becomeLike 158 = .ok (.iconst 0, 1) := by decide +kernel
theorem dX0_becomeLike_159 : decode cX0_becomeLike 159 = .ok (.bipush 10, 2) := by decide +kernel
theorem dX0_becomeLike_161 : decode cX0_becomeLike 161 = .ok (.invokestatic 52, 3) := by decide +kernel
theorem dX0_becomeLike_164 : decode cX0_becomeLike 164 = .ok (.aload_n 0, 1) := by decide +kernel
theorem dX0_becomeLike_165 : decode cX0_becomeLike 165 = .ok (.aload_n 1, 1) := by decide +kernel
theorem dX0_becomeLike_166 : decode cX0_becomeLike 166 = .ok (.getfield 58, 3) := by decide +kernel
theorem dX0_becomeLike_169 : decode cX0_becomeLike 169 = .ok (.putfield 58, 3) := by decide +kernel
theorem dX0_becomeLike_172 : decode cX0_becomeLike 172 = .ok (.aload_n 0, 1) := by decide +kernel
theorem dX0_becomeLike_173 : decode cX0_becomeLike 173 = .ok (.aload_n 1, 1) := by decide +kernel
theorem dX0_becomeLike_174 : decode cX0_becomeLike 174 = .ok (.getfield 61, 3) := by decide +kernel
theorem dX0_becomeLike_177 : decode cX0_becomeLike 177 = .ok (.putfield 61, 3) := by decide +kernel
theorem dX0_becomeLike_180 : decode cX0_becomeLike 180 = .ok (.aload_n 0, 1) := by decide +kernel
theorem dX0_becomeLike_181 : decode cX0_becomeLike 181 = .ok (.aload_n 1, 1) := by decide +kernel
theorem dX0_becomeLike_182 : decode cX0_becomeLike 182 = .ok (.getfield 64, 3) := by decide +kernel
theorem dX0_becomeLike_185 : decode cX0_becomeLike 185 = .ok (.putfield 64, 3) := by decide +kernel
theorem dX0_becomeLike_188 : decode cX0_becomeLike 188 = .ok (.aload_n 0, 1) := by decide +kernel
theorem dX0_becomeLike_189 : decode cX0_becomeLike 189 = .ok (.aload_n 1, 1) := by decide +kernel
theorem dX0_becomeLike_190 : decode cX0_becomeLike 190 = .ok (.getfield 45, 3) := by decide +kernel
theorem dX0_becomeLike_193 : decode cX0_becomeLike 193 = .ok (.putfield 45, 3) := by decide +kernel
theorem dX0_becomeLike_196 : decode cX0_becomeLike 196 = .ok (.return_, 1) := by decide +kernel
theorem dX0_has_0 : decode cX0_has 0 = .ok (.iload_n 1, 1) := by decide +kernel
theorem dX0_has_1 : decode cX0_has 1 = .ok (.ifCond .lt 15, 3) := by decide +kernel
theorem dX0_has_4 : decode cX0_has 4 = .ok (.iload_n 1, 1) := by decide +kernel
theorem dX0_has_5 : decode cX0_has 5 = .ok (.aload_n 0, 1) := by decide +kernel
theorem dX0_has_6 : decode cX0_has 6 = .ok (.getfield 58, 3) := by decide +kernel
theorem dX0_has_9 : decode cX0_has 9 = .ok (.if_icmp .ge 7, 3) := by decide +kernel
theorem dX0_has_12 : decode cX0_has 12 = .ok (.iconst 1, 1) := by decide +kernel
theorem dX0_has_13 : decode cX0_has 13 = .ok (.goto 4, 3) := by decide +kernel
theorem dX0_has_16 : decode cX0_has 16 = .ok (.iconst 0, 1) := by decide +kernel
theorem dX0_has_17 : decode cX0_has 17 = .ok (.ireturn, 1) := by decide +kernel
theorem dX0_hasOrNobody_0 : decode cX0_hasOrNobody 0 = .ok (.iload_n 1, 1) := by decide +kernel
theorem dX0_hasOrNobody_1 : decode cX0_hasOrNobody 1 = .ok (.iconst (-1), 1) := by decide +kernel
theorem dX0_hasOrNobody_2 : decode cX0_hasOrNobody 2 = .ok (.if_icmp .eq 11, 3) := by decide +kernel
theorem dX0_hasOrNobody_5 : decode cX0_hasOrNobody 5 = .ok (.aload_n 0, 1) := by decide +kernel
theorem dX0_hasOrNobody_6 : decode cX0_hasOrNobody 6 = .ok (.iload_n 1, 1) := by decide +kernel
theorem dX0_hasOrNobody_7 : decode cX0_hasOrNobody 7 = .ok (.invokevirtual 67, 3) := by decide +kernel
theorem dX0_hasOrNobody_10 : decode cX0_hasOrNobody 10 = .ok (.ifCond .eq 7, 3) := by decide +kernel
theorem dX0_hasOrNobody_13 : decode cX0_hasOrNobody 13 = .ok (.iconst 1, 1) := by decide +kernel
theorem dX0_hasOrNobody_14 : decode cX0_hasOrNobody 14 = .ok (.goto 4, 3) := by decide +kernel
theorem dX0_hasOrNobody_17 : decode cX0_hasOrNobody 17 = .ok (.iconst 0, 1) := by decide +kernel
theorem dX0_hasOrNobody_18 : decode cX0_hasOrNobody 18 = .ok (.ireturn, 1) := by decide +kernel
theorem dX0_all_0 : decode cX0_all 0 = .ok (.iconst 1, 1) := by decide +kernel
theorem dX0_all_1 : decode cX0_all 1 = .ok (.aload_n 0, 1) := by decide +kernel
theorem dX0_all_2 : decode cX0_all 2 = .ok (.getfield 58, 3) := by decide +kernel
theorem dX0_all_5 : decode cX0_all 5 = .ok (.ishl, 1) := by decide +kernel
theorem dX0_all_6 : decode cX0_all 6 = .ok (.iconst 1, 1) := by decide +kernel
theorem dX0_all_7 : decode cX0_all 7 = .ok (.isub, 1) := by decide +kernel
theorem dX0_all_8 : decode cX0_all 8 = .ok (.ireturn, 1) := by decide +kernel
theorem dX0_standingOf_0 : decode cX0_standingOf 0 = .ok (.aload_n 0, 1) := by decide +kernel
theorem dX0_standingOf_1 : decode cX0_standingOf 1 = .ok (.getfield 15, 3) := by decide +kernel
theorem dX0_standingOf_4 : decode cX0_standingOf 4 = .ok (.iload_n 1, 1) := by decide +kernel
theorem dX0_standingOf_5 : decode cX0_standingOf 5 = .ok (.iaload, 1) := by decide +kernel
theorem dX0_standingOf_6 : decode cX0_standingOf 6 = .ok (.iconst (-1), 1) := by decide +kernel
theorem dX0_standingOf_7 : decode cX0_standingOf 7 = .ok (.if_icmp .ne 8, 3) := by decide +kernel
theorem dX0_standingOf_10 : decode cX0_standingOf 10 = .ok (.bipush 8, 2) := by decide +kernel
theorem dX0_standingOf_12 : decode cX0_standingOf 12 = .ok (.goto 9, 3) := by decide +kernel
theorem dX0_standingOf_15 : decode cX0_standingOf 15 = .ok (.aload_n 0, 1) := by decide +kernel
theorem dX0_standingOf_16 : decode cX0_standingOf 16 = .ok (.getfield 15, 3) := by decide +kernel
theorem dX0_standingOf_19 : decode cX0_standingOf 19 = .ok (.iload_n 1, 1) := by decide +kernel
theorem dX0_standingOf_20 : decode cX0_standingOf 20 = .ok (.iaload, 1) := by decide +kernel
theorem dX0_standingOf_21 : decode cX0_standingOf 21 = .ok (.ireturn, 1) := by decide +kernel
theorem dX0_sizeOf_0 : decode cX0_sizeOf 0 = .ok (.aload_n 0, 1) := by decide +kernel
theorem dX0_sizeOf_1 : decode cX0_sizeOf 1 = .ok (.getfield 36, 3) := by decide +kernel
theorem dX0_sizeOf_4 : decode cX0_sizeOf 4 = .ok (.iload_n 1, 1) := by decide +kernel
theorem dX0_sizeOf_5 : decode cX0_sizeOf 5 = .ok (.iaload, 1) := by decide +kernel
theorem dX0_sizeOf_6 : decode cX0_sizeOf 6 = .ok (.invokestatic 71, 3) := by decide +kernel
theorem dX0_sizeOf_9 : decode cX0_sizeOf 9 = .ok (.ireturn, 1) := by decide +kernel
theorem dX0_hasFree_0 : decode cX0_hasFree 0 = .ok (.aload_n 0, 1) := by decide +kernel
theorem dX0_hasFree_1 : decode cX0_hasFree 1 = .ok (.iload_n 1, 1) := by decide +kernel
theorem dX0_hasFree_2 : decode cX0_hasFree 2 = .ok (.invokevirtual 77, 3) := by decide +kernel
theorem dX0_hasFree_5 : decode cX0_hasFree 5 = .ok (.aload_n 0, 1) := by decide +kernel
theorem dX0_hasFree_6 : decode cX0_hasFree 6 = .ok (.getfield 33, 3) := by decide +kernel
theorem dX0_hasFree_9 : decode cX0_hasFree 9 = .ok (.iload_n 1, 1) := by decide +kernel
theorem dX0_hasFree_10 : decode cX0_hasFree 10 = .ok (.iaload, 1) := by decide +kernel
theorem dX0_hasFree_11 : decode cX0_hasFree 11 = .ok (.if_icmp .ge 7, 3) := by decide +kernel
theorem dX0_hasFree_14 : decode cX0_hasFree 14 = .ok (.iconst 1, 1) := by decide +kernel
theorem dX0_hasFree_15 : decode cX0_hasFree 15 = .ok (.goto 4, 3) := by decide +kernel
theorem dX0_hasFree_18 : decode cX0_hasFree 18 = .ok (.iconst 0, 1) := by decide +kernel
theorem dX0_hasFree_19 : decode cX0_hasFree 19 = .ok (.ireturn, 1) := by decide +kernel
theorem dX0_addOne_0 : decode cX0_addOne 0 = .ok (.aload_n 0, 1) := by decide +kernel
theorem dX0_addOne_1 : decode cX0_addOne 1 = .ok (.getfield 58, 3) := by decide +kernel
theorem dX0_addOne_4 : decode cX0_addOne 4 = .ok (.istore_n 3, 1) := by decide +kernel
theorem dX0_addOne_5 : decode cX0_addOne 5 = .ok (.aload_n 0, 1) := by decide +kernel
theorem dX0_addOne_6 : decode cX0_addOne 6 = .ok (.dup, 1) := by decide +kernel
theorem dX0_addOne_7 : decode cX0_addOne 7 = .ok (.getfield 58, 3) := by decide +kernel
theorem dX0_addOne_10 : decode cX0_addOne 10 = .ok (.iconst 1, 1) := by decide +kernel
theorem dX0_addOne_11 : decode cX0_addOne 11 = .ok (.iadd, 1) := by decide +kernel
theorem dX0_addOne_12 : decode cX0_addOne 12 = .ok (.putfield 58, 3) := by decide +kernel
theorem dX0_addOne_15 : decode cX0_addOne 15 = .ok (.aload_n 0, 1) := by decide +kernel
theorem dX0_addOne_16 : decode cX0_addOne 16 = .ok (.getfield 9, 3) := by decide +kernel
theorem dX0_addOne_19 : decode cX0_addOne 19 = .ok (.iload_n 3, 1) := by decide +kernel
theorem dX0_addOne_20 : decode cX0_addOne 20 = .ok (.iload_n 1, 1) := by decide +kernel
theorem dX0_addOne_21 : decode cX0_addOne 21 = .ok (.iastore, 1) := by decide +kernel
theorem dX0_addOne_22 : decode cX0_addOne 22 = .ok (.aload_n 0, 1) := by decide +kernel
theorem dX0_addOne_23 : decode cX0_addOne 23 = .ok (.getfield 15, 3) := by decide +kernel
theorem dX0_addOne_26 : decode cX0_addOne 26 = .ok (.iload_n 3, 1) := by decide +kernel
theorem dX0_addOne_27 : decode cX0_addOne 27 = .ok (.iconst (-1), 1) := by decide +kernel
theorem dX0_addOne_28 : decode cX0_addOne 28 = .ok (.iastore, 1) := by decide +kernel
theorem dX0_addOne_29 : decode cX0_addOne 29 = .ok (.aload_n 0, 1) := by decide +kernel
theorem dX0_addOne_30 : decode cX0_addOne 30 = .ok (.getfield 18, 3) := by decide +kernel
theorem dX0_addOne_33 : decode cX0_addOne 33 = .ok (.iload_n 3, 1) := by decide +kernel
theorem dX0_addOne_34 : decode cX0_addOne 34 = .ok (.bipush 30, 2) := by decide +kernel
theorem dX0_addOne_36 : decode cX0_addOne 36 = .ok (.iastore, 1) := by decide +kernel
theorem dX0_addOne_37 : decode cX0_addOne 37 = .ok (.aload_n 0, 1) := by decide +kernel
theorem dX0_addOne_38 : decode cX0_addOne 38 = .ok (.getfield 21, 3) := by decide +kernel
theorem dX0_addOne_41 : decode cX0_addOne 41 = .ok (.iload_n 3, 1) := by decide +kernel
theorem dX0_addOne_42 : decode cX0_addOne 42 = .ok (.iconst 0, 1) := by decide +kernel
theorem dX0_addOne_43 : decode cX0_addOne 43 = .ok (.iastore, 1) := by decide +kernel
theorem dX0_addOne_44 : decode cX0_addOne 44 = .ok (.aload_n 0, 1) := by decide +kernel
theorem dX0_addOne_45 : decode cX0_addOne 45 = .ok (.getfield 24, 3) := by decide +kernel
theorem dX0_addOne_48 : decode cX0_addOne 48 = .ok (.iload_n 3, 1) := by decide +kernel
theorem dX0_addOne_49 : decode cX0_addOne 49 = .ok (.bipush 100, 2) := by decide +kernel
theorem dX0_addOne_51 : decode cX0_addOne 51 = .ok (.iastore, 1) := by decide +kernel
theorem dX0_addOne_52 : decode cX0_addOne 52 = .ok (.aload_n 0, 1) := by decide +kernel
theorem dX0_addOne_53 : decode cX0_addOne 53 = .ok (.getfield 27, 3) := by decide +kernel
theorem dX0_addOne_56 : decode cX0_addOne 56 = .ok (.iload_n 3, 1) := by decide +kernel
theorem dX0_addOne_57 : decode cX0_addOne 57 = .ok (.iconst (-1), 1) := by decide +kernel
theorem dX0_addOne_58 : decode cX0_addOne 58 = .ok (.iastore, 1) := by decide +kernel
theorem dX0_addOne_59 : decode cX0_addOne 59 = .ok (.aload_n 0, 1) := by decide +kernel
theorem dX0_addOne_60 : decode cX0_addOne 60 = .ok (.getfield 30, 3) := by decide +kernel
theorem dX0_addOne_63 : decode cX0_addOne 63 = .ok (.iload_n 3, 1) := by decide +kernel
theorem dX0_addOne_64 : decode cX0_addOne 64 = .ok (.iconst 0, 1) := by decide +kernel
theorem dX0_addOne_65 : decode cX0_addOne 65 = .ok (.iastore, 1) := by decide +kernel
theorem dX0_addOne_66 : decode cX0_addOne 66 = .ok (.aload_n 0, 1) := by decide +kernel
theorem dX0_addOne_67 : decode cX0_addOne 67 = .ok (.iload_n 3, 1) := by decide +kernel
theorem dX0_addOne_68 : decode cX0_addOne 68 = .ok (.iload_n 2, 1) := by decide +kernel
theorem dX0_addOne_69 : decode cX0_addOne 69 = .ok (.invokevirtual 80, 3) := by decide +kernel
theorem dX0_addOne_72 : decode cX0_addOne 72 = .ok (.iload_n 3, 1) := by decide +kernel
theorem dX0_addOne_73 : decode cX0_addOne 73 = .ok (.ireturn, 1) := by decide +kernel
theorem dX0_moveTo_0 : decode cX0_moveTo 0 = .ok (.aload_n 0, 1) := by decide +kernel
theorem dX0_moveTo_1 : decode cX0_moveTo 1 = .ok (.getfield 15, 3) := by decide +kernel
theorem dX0_moveTo_4 : decode cX0_moveTo 4 = .ok (.iload_n 1, 1) := by decide +kernel
theorem dX0_moveTo_5 : decode cX0_moveTo 5 = .ok (.iaload, 1) := by decide +kernel
theorem dX0_moveTo_6 : decode cX0_moveTo 6 = .ok (.istore_n 3, 1) := by decide +kernel
theorem dX0_moveTo_7 : decode cX0_moveTo 7 = .ok (.iload_n 3, 1) := by decide +kernel
theorem dX0_moveTo_8 : decode cX0_moveTo 8 = .ok (.invokestatic 84, 3) := by decide +kernel
theorem dX0_moveTo_11 : decode cX0_moveTo 11 = .ok (.ifCond .eq 17, 3) := by decide +kernel
theorem dX0_moveTo_14 : decode cX0_moveTo 14 = .ok (.aload_n 0, 1) := by decide +kernel
theorem dX0_moveTo_15 : decode cX0_moveTo 15 = .ok (.getfield 36, 3) := by decide +kernel
theorem dX0_moveTo_18 : decode cX0_moveTo 18 = .ok (.iload_n 3, 1) := by decide +kernel
theorem dX0_moveTo_19 : decode cX0_moveTo 19 = .ok (.dup2, 1) := by decide +kernel
theorem dX0_moveTo_20 : decode cX0_moveTo 20 = .ok (.iaload, 1) := by decide +kernel
theorem dX0_moveTo_21 : decode cX0_moveTo 21 = .ok (.iconst 1, 1) := by decide +kernel
theorem dX0_moveTo_22 : decode cX0_moveTo 22 = .ok (.iload_n 1, 1) := by decide +kernel
theorem dX0_moveTo_23 : decode cX0_moveTo 23 = .ok (.ishl, 1) := by decide +kernel
theorem dX0_moveTo_24 : decode cX0_moveTo 24 = .ok (.iconst (-1), 1) := by decide +kernel
theorem dX0_moveTo_25 : decode cX0_moveTo 25 = .ok (.ixor, 1) := by decide +kernel
theorem dX0_moveTo_26 : decode cX0_moveTo 26 = .ok (.iand, 1) := by decide +kernel
theorem dX0_moveTo_27 : decode cX0_moveTo 27 = .ok (.iastore, 1) := by decide +kernel
theorem dX0_moveTo_28 : decode cX0_moveTo 28 = .ok (.iload_n 2, 1) := by decide +kernel
theorem dX0_moveTo_29 : decode cX0_moveTo 29 = .ok (.invokestatic 84, 3) := by decide +kernel
theorem dX0_moveTo_32 : decode cX0_moveTo 32 = .ok (.ifCond .eq 15, 3) := by decide +kernel
theorem dX0_moveTo_35 : decode cX0_moveTo 35 = .ok (.aload_n 0, 1) := by decide +kernel
theorem dX0_moveTo_36 : decode cX0_moveTo 36 = .ok (.getfield 36, 3) := by decide +kernel
theorem dX0_moveTo_39 : decode cX0_moveTo 39 = .ok (.iload_n 2, 1) := by decide +kernel
theorem dX0_moveTo_40 : decode cX0_moveTo 40 = .ok (.dup2, 1) := by decide +kernel
theorem dX0_moveTo_41 : decode cX0_moveTo 41 = .ok (.iaload, 1) := by decide +kernel
theorem dX0_moveTo_42 : decode cX0_moveTo 42 = .ok (.iconst 1, 1) := by decide +kernel
theorem dX0_moveTo_43 : decode cX0_moveTo 43 = .ok (.iload_n 1, 1) := by decide +kernel
theorem dX0_moveTo_44 : decode cX0_moveTo 44 = .ok (.ishl, 1) := by decide +kernel
theorem dX0_moveTo_45 : decode cX0_moveTo 45 = .ok (.ior, 1) := by decide +kernel
theorem dX0_moveTo_46 : decode cX0_moveTo 46 = .ok (.iastore, 1) := by decide +kernel
theorem dX0_moveTo_47 : decode cX0_moveTo 47 = .ok (.aload_n 0, 1) := by decide +kernel
theorem dX0_moveTo_48 : decode cX0_moveTo 48 = .ok (.getfield 15, 3) := by decide +kernel
theorem dX0_moveTo_51 : decode cX0_moveTo 51 = .ok (.iload_n 1, 1) := by decide +kernel
theorem dX0_moveTo_52 : decode cX0_moveTo 52 = .ok (.iload_n 2, 1) := by decide +kernel
theorem dX0_moveTo_53 : decode cX0_moveTo 53 = .ok (.iastore, 1) := by decide +kernel
theorem dX0_moveTo_54 : decode cX0_moveTo 54 = .ok (.return_, 1) := by decide +kernel
theorem dX0_resent_0 : decode cX0_resent 0 = .ok (.aload_n 0, 1) := by decide +kernel
theorem dX0_resent_1 : decode cX0_resent 1 = .ok (.getfield 27, 3) := by decide +kernel
theorem dX0_resent_4 : decode cX0_resent 4 = .ok (.iload_n 1, 1) := by decide +kernel
theorem dX0_resent_5 : decode cX0_resent 5 = .ok (.iload_n 2, 1) := by decide +kernel
theorem dX0_resent_6 : decode cX0_resent 6 = .ok (.iastore, 1) := by decide +kernel
theorem dX0_resent_7 : decode cX0_resent 7 = .ok (.aload_n 0, 1) := by decide +kernel
theorem dX0_resent_8 : decode cX0_resent 8 = .ok (.getfield 30, 3) := by decide +kernel
theorem dX0_resent_11 : decode cX0_resent 11 = .ok (.iload_n 1, 1) := by decide +kernel
theorem dX0_resent_12 : decode cX0_resent 12 = .ok (.iconst 0, 1) := by decide +kernel
theorem dX0_resent_13 : decode cX0_resent 13 = .ok (.iastore, 1) := by decide +kernel
theorem dX0_resent_14 : decode cX0_resent 14 = .ok (.return_, 1) := by decide +kernel
theorem dX0_resentAll_0 : decode cX0_resentAll 0 = .ok (.iconst 0, 1) := by decide +kernel
theorem dX0_resentAll_1 : decode cX0_resentAll 1 = .ok (.istore_n 3, 1) := by decide +kernel
theorem dX0_resentAll_2 : decode cX0_resentAll 2 = .ok (.iload_n 3, 1) := by decide +kernel
theorem dX0_resentAll_3 : decode cX0_resentAll 3 = .ok (.aload_n 0, 1) := by decide +kernel
theorem dX0_resentAll_4 : decode cX0_resentAll 4 = .ok (.getfield 58, 3) := by decide +kernel
theorem dX0_resentAll_7 : decode cX0_resentAll 7 = .ok (.if_icmp .ge 23, 3) := by decide +kernel
theorem dX0_resentAll_10 : decode cX0_resentAll 10 = .ok (.iload_n 1, 1) := by decide +kernel
theorem dX0_resentAll_11 : decode cX0_resentAll 11 = .ok (.iload_n 3, 1) := by decide +kernel
theorem dX0_resentAll_12 : decode cX0_resentAll 12 = .ok (.ishr, 1) := by decide +kernel
theorem dX0_resentAll_13 : decode cX0_resentAll 13 = .ok (.iconst 1, 1) := by decide +kernel
theorem dX0_resentAll_14 : decode cX0_resentAll 14 = .ok (.iand, 1) := by decide +kernel
theorem dX0_resentAll_15 : decode cX0_resentAll 15 = .ok (.ifCond .eq 9, 3) := by decide +kernel
theorem dX0_resentAll_18 : decode cX0_resentAll 18 = .ok (.aload_n 0, 1) := by decide +kernel
theorem dX0_resentAll_19 : decode cX0_resentAll 19 = .ok (.iload_n 3, 1) := by decide +kernel
theorem dX0_resentAll_20 : decode cX0_resentAll 20 = .ok (.iload_n 2, 1) := by decide +kernel
theorem dX0_resentAll_21 : decode cX0_resentAll 21 = .ok (.invokevirtual 87, 3) := by decide +kernel
theorem dX0_resentAll_24 : decode cX0_resentAll 24 = .ok (.iinc 3 1, 3) := by decide +kernel
theorem dX0_resentAll_27 : decode cX0_resentAll 27 = .ok (.goto (-25), 3) := by decide +kernel
theorem dX0_resentAll_30 : decode cX0_resentAll 30 = .ok (.return_, 1) := by decide +kernel
theorem dX0_canTake_0 : decode cX0_canTake 0 = .ok (.aload_n 0, 1) := by decide +kernel
theorem dX0_canTake_1 : decode cX0_canTake 1 = .ok (.getfield 27, 3) := by decide +kernel
theorem dX0_canTake_4 : decode cX0_canTake 4 = .ok (.iload_n 1, 1) := by decide +kernel
theorem dX0_canTake_5 : decode cX0_canTake 5 = .ok (.iaload, 1) := by decide +kernel
theorem dX0_canTake_6 : decode cX0_canTake 6 = .ok (.istore_n 3, 1) := by decide +kernel
theorem dX0_canTake_7 : decode cX0_canTake 7 = .ok (.aload_n 0, 1) := by decide +kernel
theorem dX0_canTake_8 : decode cX0_canTake 8 = .ok (.iload_n 3, 1) := by decide +kernel
theorem dX0_canTake_9 : decode cX0_canTake 9 = .ok (.invokevirtual 67, 3) := by decide +kernel
theorem dX0_canTake_12 : decode cX0_canTake 12 = .ok (.ifCond .eq 31, 3) := by decide +kernel
theorem dX0_canTake_15 : decode cX0_canTake 15 = .ok (.aload_n 0, 1) := by decide +kernel
theorem dX0_canTake_16 : decode cX0_canTake 16 = .ok (.getfield 24, 3) := by decide +kernel
theorem dX0_canTake_19 : decode cX0_canTake 19 = .ok (.iload_n 3, 1) := by decide +kernel
theorem dX0_canTake_20 : decode cX0_canTake 20 = .ok (.iaload, 1) := by decide +kernel
theorem dX0_canTake_21 : decode cX0_canTake 21 = .ok (.iload_n 2, 1) := by decide +kernel
theorem dX0_canTake_22 : decode cX0_canTake 22 = .ok (.if_icmp .lt 21, 3) := by decide +kernel
theorem dX0_canTake_25 : decode cX0_canTake 25 = .ok (.aload_n 0, 1) := by decide +kernel
theorem dX0_canTake_26 : decode cX0_canTake 26 = .ok (.getfield 24, 3) := by decide +kernel
theorem dX0_canTake_29 : decode cX0_canTake 29 = .ok (.iload_n 1, 1) := by decide +kernel
theorem dX0_canTake_30 : decode cX0_canTake 30 = .ok (.iaload, 1) := by decide +kernel
theorem dX0_canTake_31 : decode cX0_canTake 31 = .ok (.iload_n 2, 1) := by decide +kernel
theorem dX0_canTake_32 : decode cX0_canTake 32 = .ok (.iadd, 1) := by decide +kernel
theorem dX0_canTake_33 : decode cX0_canTake 33 = .ok (.sipush 9999, 3) := by decide +kernel
theorem dX0_canTake_36 : decode cX0_canTake 36 = .ok (.if_icmp .gt 7, 3) := by decide +kernel
theorem dX0_canTake_39 : decode cX0_canTake 39 = .ok (.iconst 1, 1) := by decide +kernel
theorem dX0_canTake_40 : decode cX0_canTake 40 = .ok (.goto 4, 3) := by decide +kernel
theorem dX0_canTake_43 : decode cX0_canTake 43 = .ok (.iconst 0, 1) := by decide +kernel
theorem dX0_canTake_44 : decode cX0_canTake 44 = .ok (.ireturn, 1) := by decide +kernel
theorem dX0_take_0 : decode cX0_take 0 = .ok (.aload_n 0, 1) := by decide +kernel
theorem dX0_take_1 : decode cX0_take 1 = .ok (.getfield 27, 3) := by decide +kernel
theorem dX0_take_4 : decode cX0_take 4 = .ok (.iload_n 1, 1) := by decide +kernel
theorem dX0_take_5 : decode cX0_take 5 = .ok (.iaload, 1) := by decide +kernel
theorem dX0_take_6 : decode cX0_take 6 = .ok (.istore_n 3, 1) := by decide +kernel
theorem dX0_take_7 : decode cX0_take 7 = .ok (.aload_n 0, 1) := by decide +kernel
theorem dX0_take_8 : decode cX0_take 8 = .ok (.iload_n 3, 1) := by decide +kernel
theorem dX0_take_9 : decode cX0_take 9 = .ok (.invokevirtual 67, 3) := by decide +kernel
theorem dX0_take_12 : decode cX0_take 12 = .ok (.ifCond .eq 33, 3) := by decide +kernel
theorem dX0_take_15 : decode cX0_take 15 = .ok (.aload_n 0, 1) := by decide +kernel
theorem dX0_take_16 : decode cX0_take 16 = .ok (.getfield 24, 3) := by decide +kernel
theorem dX0_take_19 : decode cX0_take 19 = .ok (.iload_n 3, 1) := by decide +kernel
theorem dX0_take_20 : decode cX0_take 20 = .ok (.dup2, 1) := by decide +kernel
theorem dX0_take_21 : decode cX0_take 21 = .ok (.iaload, 1) := by decide +kernel
theorem dX0_take_22 : decode cX0_take 22 = .ok (.iload_n 2, 1) := by decide +kernel
theorem dX0_take_23 : decode cX0_take 23 = .ok (.isub, 1) := by decide +kernel
theorem dX0_take_24 : decode cX0_take 24 = .ok (.iastore, 1) := by decide +kernel
theorem dX0_take_25 : decode cX0_take 25 = .ok (.aload_n 0, 1) := by decide +kernel
theorem dX0_take_26 : decode cX0_take 26 = .ok (.getfield 24, 3) := by decide +kernel
theorem dX0_take_29 : decode cX0_take 29 = .ok (.iload_n 1, 1) := by decide +kernel
theorem dX0_take_30 : decode cX0_take 30 = .ok (.dup2, 1) := by decide +kernel
theorem dX0_take_31 : decode cX0_take 31 = .ok (.iaload, 1) := by decide +kernel
theorem dX0_take_32 : decode cX0_take 32 = .ok (.iload_n 2, 1) := by decide +kernel
theorem dX0_take_33 : decode cX0_take 33 = .ok (.iadd, 1) := by decide +kernel
theorem dX0_take_34 : decode cX0_take 34 = .ok (.iastore, 1) := by decide +kernel
theorem dX0_take_35 : decode cX0_take 35 = .ok (.aload_n 0, 1) := by decide +kernel
theorem dX0_take_36 : decode cX0_take 36 = .ok (.getfield 30, 3) := by decide +kernel
theorem dX0_take_39 : decode cX0_take 39 = .ok (.iload_n 1, 1) := by decide +kernel
theorem dX0_take_40 : decode cX0_take 40 = .ok (.dup2, 1) := by decide +kernel
theorem dX0_take_41 : decode cX0_take 41 = .ok (.iaload, 1) := by decide +kernel
theorem dX0_take_42 : decode cX0_take 42 = .ok (.iload_n 2, 1) := by decide +kernel
theorem dX0_take_43 : decode cX0_take 43 = .ok (.iadd, 1) := by decide +kernel
theorem dX0_take_44 : decode cX0_take 44 = .ok (.iastore, 1) := by decide +kernel
theorem dX0_take_45 : decode cX0_take 45 = .ok (.return_, 1) := by decide +kernel
theorem dX0_thoseOut_0 : decode cX0_thoseOut 0 = .ok (.iconst 0, 1) := by decide +kernel
theorem dX0_thoseOut_1 : decode cX0_thoseOut 1 = .ok (.istore_n 1, 1) := by decide +kernel
theorem dX0_thoseOut_2 : decode cX0_thoseOut 2 = .ok (.iconst 0, 1) := by decide +kernel
theorem dX0_thoseOut_3 : decode cX0_thoseOut 3 = .ok (.istore_n 2, 1) := by decide +kernel
theorem dX0_thoseOut_4 : decode cX0_thoseOut 4 = .ok (.iload_n 2, 1) := by decide +kernel
theorem dX0_thoseOut_5 : decode cX0_thoseOut 5 = .ok (.aload_n 0, 1) := by decide +kernel
theorem dX0_thoseOut_6 : decode cX0_thoseOut 6 = .ok (.getfield 58, 3) := by decide +kernel
theorem dX0_thoseOut_9 : decode cX0_thoseOut 9 = .ok (.if_icmp .ge 25, 3) := by decide +kernel
theorem dX0_thoseOut_12 : decode cX0_thoseOut 12 = .ok (.aload_n 0, 1) := by decide +kernel
theorem dX0_thoseOut_13 : decode cX0_thoseOut 13 = .ok (.getfield 15, 3) := by decide +kernel
theorem dX0_thoseOut_16 : decode cX0_thoseOut 16 = .ok (.iload_n 2, 1) := by decide +kernel
theorem dX0_thoseOut_17 : decode cX0_thoseOut 17 = .ok (.iaload, 1) := by decide +kernel
theorem dX0_thoseOut_18 : decode cX0_thoseOut 18 = .ok (.iconst (-1), 1) := by decide +kernel
theorem dX0_thoseOut_19 : decode cX0_thoseOut 19 = .ok (.if_icmp .ne 9, 3) := by decide +kernel
theorem dX0_thoseOut_22 : decode cX0_thoseOut 22 = .ok (.iload_n 1, 1) := by decide +kernel
theorem dX0_thoseOut_23 : decode cX0_thoseOut 23 = .ok (.iconst 1, 1) := by decide +kernel
theorem dX0_thoseOut_24 : decode cX0_thoseOut 24 = .ok (.iload_n 2, 1) := by decide +kernel
theorem dX0_thoseOut_25 : decode cX0_thoseOut 25 = .ok (.ishl, 1) := by decide +kernel
theorem dX0_thoseOut_26 : decode cX0_thoseOut 26 = .ok (.ior, 1) := by decide +kernel
theorem dX0_thoseOut_27 : decode cX0_thoseOut 27 = .ok (.istore_n 1, 1) := by decide +kernel
theorem dX0_thoseOut_28 : decode cX0_thoseOut 28 = .ok (.iinc 2 1, 3) := by decide +kernel
theorem dX0_thoseOut_31 : decode cX0_thoseOut 31 = .ok (.goto (-27), 3) := by decide +kernel
theorem dX0_thoseOut_34 : decode cX0_thoseOut 34 = .ok (.iload_n 1, 1) := by decide +kernel
theorem dX0_thoseOut_35 : decode cX0_thoseOut 35 = .ok (.ireturn, 1) := by decide +kernel
theorem dX0_goldOf_0 : decode cX0_goldOf 0 = .ok (.iconst 0, 1) := by decide +kernel
theorem dX0_goldOf_1 : decode cX0_goldOf 1 = .ok (.istore_n 2, 1) := by decide +kernel
theorem dX0_goldOf_2 : decode cX0_goldOf 2 = .ok (.iconst 0, 1) := by decide +kernel
theorem dX0_goldOf_3 : decode cX0_goldOf 3 = .ok (.istore_n 3, 1) := by decide +kernel
theorem dX0_goldOf_4 : decode cX0_goldOf 4 = .ok (.iload_n 3, 1) := by decide +kernel
theorem dX0_goldOf_5 : decode cX0_goldOf 5 = .ok (.aload_n 0, 1) := by decide +kernel
theorem dX0_goldOf_6 : decode cX0_goldOf 6 = .ok (.getfield 58, 3) := by decide +kernel
theorem dX0_goldOf_9 : decode cX0_goldOf 9 = .ok (.if_icmp .ge 26, 3) := by decide +kernel
theorem dX0_goldOf_12 : decode cX0_goldOf 12 = .ok (.iload_n 1, 1) := by decide +kernel
theorem dX0_goldOf_13 : decode cX0_goldOf 13 = .ok (.iload_n 3, 1) := by decide +kernel
theorem dX0_goldOf_14 : decode cX0_goldOf 14 = .ok (.ishr, 1) := by decide +kernel
theorem dX0_goldOf_15 : decode cX0_goldOf 15 = .ok (.iconst 1, 1) := by decide +kernel
theorem dX0_goldOf_16 : decode cX0_goldOf 16 = .ok (.iand, 1) := by decide +kernel
theorem dX0_goldOf_17 : decode cX0_goldOf 17 = .ok (.ifCond .eq 12, 3) := by decide +kernel
theorem dX0_goldOf_20 : decode cX0_goldOf 20 = .ok (.iload_n 2, 1) := by decide +kernel
theorem dX0_goldOf_21 : decode cX0_goldOf 21 = .ok (.aload_n 0, 1) := by decide +kernel
theorem dX0_goldOf_22 : decode cX0_goldOf 22 = .ok (.getfield 24, 3) := by decide +kernel
theorem dX0_goldOf_25 : decode cX0_goldOf 25 = .ok (.iload_n 3, 1) := by decide +kernel
theorem dX0_goldOf_26 : decode cX0_goldOf 26 = .ok (.iaload, 1) := by decide +kernel
theorem dX0_goldOf_27 : decode cX0_goldOf 27 = .ok (.iadd, 1) := by decide +kernel
theorem dX0_goldOf_28 : decode cX0_goldOf 28 = .ok (.istore_n 2, 1) := by decide +kernel
theorem dX0_goldOf_29 : decode cX0_goldOf 29 = .ok (.iinc 3 1, 3) := by decide +kernel
theorem dX0_goldOf_32 : decode cX0_goldOf 32 = .ok (.goto (-28), 3) := by decide +kernel
theorem dX0_goldOf_35 : decode cX0_goldOf 35 = .ok (.iload_n 2, 1) := by decide +kernel
theorem dX0_goldOf_36 : decode cX0_goldOf 36 = .ok (.ireturn, 1) := by decide +kernel
theorem dX0_withGrudge_0 : decode cX0_withGrudge 0 = .ok (.iconst 0, 1) := by decide +kernel
theorem dX0_withGrudge_1 : decode cX0_withGrudge 1 = .ok (.istore_n 1, 1) := by decide +kernel
theorem dX0_withGrudge_2 : decode cX0_withGrudge 2 = .ok (.iconst 0, 1) := by decide +kernel
theorem dX0_withGrudge_3 : decode cX0_withGrudge 3 = .ok (.istore_n 2, 1) := by decide +kernel
theorem dX0_withGrudge_4 : decode cX0_withGrudge 4 = .ok (.iload_n 2, 1) := by decide +kernel
theorem dX0_withGrudge_5 : decode cX0_withGrudge 5 = .ok (.aload_n 0, 1) := by decide +kernel
theorem dX0_withGrudge_6 : decode cX0_withGrudge 6 = .ok (.getfield 58, 3) := by decide +kernel
theorem dX0_withGrudge_9 : decode cX0_withGrudge 9 = .ok (.if_icmp .ge 22, 3) := by decide +kernel
theorem dX0_withGrudge_12 : decode cX0_withGrudge 12 = .ok (.aload_n 0, 1) := by decide +kernel
theorem dX0_withGrudge_13 : decode cX0_withGrudge 13 = .ok (.getfield 27, 3) := by decide +kernel
theorem dX0_withGrudge_16 : decode cX0_withGrudge 16 = .ok (.iload_n 2, 1) := by decide +kernel
theorem dX0_withGrudge_17 : decode cX0_withGrudge 17 = .ok (.iaload, 1) := by decide +kernel
theorem dX0_withGrudge_18 : decode cX0_withGrudge 18 = .ok (.iconst (-1), 1) := by decide +kernel
theorem dX0_withGrudge_19 : decode cX0_withGrudge 19 = .ok (.if_icmp .eq 6, 3) := by decide +kernel
theorem dX0_withGrudge_22 : decode cX0_withGrudge 22 = .ok (.iinc 1 1, 3) := by decide +kernel
theorem dX0_withGrudge_25 : decode cX0_withGrudge 25 = .ok (.iinc 2 1, 3) := by decide +kernel
theorem dX0_withGrudge_28 : decode cX0_withGrudge 28 = .ok (.goto (-24), 3) := by decide +kernel
theorem dX0_withGrudge_31 : decode cX0_withGrudge 31 = .ok (.iload_n 1, 1) := by decide +kernel
theorem dX0_withGrudge_32 : decode cX0_withGrudge 32 = .ok (.ireturn, 1) := by decide +kernel
theorem dX0_isWanting_0 : decode cX0_isWanting 0 = .ok (.aload_n 0, 1) := by decide +kernel
theorem dX0_isWanting_1 : decode cX0_isWanting 1 = .ok (.getfield 9, 3) := by decide +kernel
theorem dX0_isWanting_4 : decode cX0_isWanting 4 = .ok (.iload_n 1, 1) := by decide +kernel
theorem dX0_isWanting_5 : decode cX0_isWanting 5 = .ok (.iaload, 1) := by decide +kernel
theorem dX0_isWanting_6 : decode cX0_isWanting 6 = .ok (.tableswitch 189 0 5 #[38, 189, 54, 85, 133, 164], 38) := by decide +kernel
theorem dX0_isWanting_44 : decode cX0_isWanting 44 = .ok (.aload_n 0, 1) := by decide +kernel
theorem dX0_isWanting_45 : decode cX0_isWanting 45 = .ok (.getfield 27, 3) := by decide +kernel
theorem dX0_isWanting_48 : decode cX0_isWanting 48 = .ok (.iload_n 1, 1) := by decide +kernel
theorem dX0_isWanting_49 : decode cX0_isWanting 49 = .ok (.iaload, 1) := by decide +kernel
theorem dX0_isWanting_50 : decode cX0_isWanting 50 = .ok (.iload_n 2, 1) := by decide +kernel
theorem dX0_isWanting_51 : decode cX0_isWanting 51 = .ok (.if_icmp .ne 7, 3) := by decide +kernel
theorem dX0_isWanting_54 : decode cX0_isWanting 54 = .ok (.iconst 1, 1) := by decide +kernel
theorem dX0_isWanting_55 : decode cX0_isWanting 55 = .ok (.goto 4, 3) := by decide +kernel
theorem dX0_isWanting_58 : decode cX0_isWanting 58 = .ok (.iconst 0, 1) := by decide +kernel
theorem dX0_isWanting_59 : decode cX0_isWanting 59 = .ok (.ireturn, 1) := by decide +kernel
theorem dX0_isWanting_60 : decode cX0_isWanting 60 = .ok (.aload_n 0, 1) := by decide +kernel
theorem dX0_isWanting_61 : decode cX0_isWanting 61 = .ok (.getfield 27, 3) := by decide +kernel
theorem dX0_isWanting_64 : decode cX0_isWanting 64 = .ok (.iload_n 1, 1) := by decide +kernel
theorem dX0_isWanting_65 : decode cX0_isWanting 65 = .ok (.iaload, 1) := by decide +kernel
theorem dX0_isWanting_66 : decode cX0_isWanting 66 = .ok (.iload_n 2, 1) := by decide +kernel
theorem dX0_isWanting_67 : decode cX0_isWanting 67 = .ok (.if_icmp .ne 22, 3) := by decide +kernel
theorem dX0_isWanting_70 : decode cX0_isWanting 70 = .ok (.aload_n 0, 1) := by decide +kernel
theorem dX0_isWanting_71 : decode cX0_isWanting 71 = .ok (.getfield 30, 3) := by decide +kernel
theorem dX0_isWanting_74 : decode cX0_isWanting 74 = .ok (.iload_n 1, 1) := by decide +kernel
theorem dX0_isWanting_75 : decode cX0_isWanting 75 = .ok (.iaload, 1) := by decide +kernel
theorem dX0_isWanting_76 : decode cX0_isWanting 76 = .ok (.aload_n 0, 1) := by decide +kernel
theorem dX0_isWanting_77 : decode cX0_isWanting 77 = .ok (.getfield 39, 3) := by decide +kernel
theorem dX0_isWanting_80 : decode cX0_isWanting 80 = .ok (.iconst 2, 1) := by decide +kernel
theorem dX0_isWanting_81 : decode cX0_isWanting 81 = .ok (.iaload, 1) := by decide +kernel
theorem dX0_isWanting_82 : decode cX0_isWanting 82 = .ok (.if_icmp .ge 7, 3) := by decide +kernel
theorem dX0_isWanting_85 : decode cX0_isWanting 85 = .ok (.iconst 1, 1) := by decide +kernel
theorem dX0_isWanting_86 : decode cX0_isWanting 86 = .ok (.goto 4, 3) := by decide +kernel
theorem dX0_isWanting_89 : decode cX0_isWanting 89 = .ok (.iconst 0, 1) := by decide +kernel
theorem dX0_isWanting_90 : decode cX0_isWanting 90 = .ok (.ireturn, 1) := by decide +kernel
theorem dX0_isWanting_91 : decode cX0_isWanting 91 = .ok (.aload_n 0, 1) := by decide +kernel
theorem dX0_isWanting_92 : decode cX0_isWanting 92 = .ok (.getfield 27, 3) := by decide +kernel
theorem dX0_isWanting_95 : decode cX0_isWanting 95 = .ok (.iload_n 1, 1) := by decide +kernel
theorem dX0_isWanting_96 : decode cX0_isWanting 96 = .ok (.iaload, 1) := by decide +kernel
theorem dX0_isWanting_97 : decode cX0_isWanting 97 = .ok (.iload_n 2, 1) := by decide +kernel
theorem dX0_isWanting_98 : decode cX0_isWanting 98 = .ok (.if_icmp .ne 18, 3) := by decide +kernel
theorem dX0_isWanting_101 : decode cX0_isWanting 101 = .ok (.aload_n 0, 1) := by decide +kernel
theorem dX0_isWanting_102 : decode cX0_isWanting 102 = .ok (.getfield 30, 3) := by decide +kernel
theorem dX0_isWanting_105 : decode cX0_isWanting 105 = .ok (.iload_n 1, 1) := by decide +kernel
theorem dX0_isWanting_106 : decode cX0_isWanting 106 = .ok (.iaload, 1) := by decide +kernel
theorem dX0_isWanting_107 : decode cX0_isWanting 107 = .ok (.aload_n 0, 1) := by decide +kernel
theorem dX0_isWanting_108 : decode cX0_isWanting 108 = .ok (.getfield 39, 3) := by decide +kernel
theorem dX0_isWanting_111 : decode cX0_isWanting 111 = .ok (.iconst 2, 1) := by decide +kernel
theorem dX0_isWanting_112 : decode cX0_isWanting 112 = .ok (.iaload, 1) := by decide +kernel
theorem dX0_isWanting_113 : decode cX0_isWanting 113 = .ok (.if_icmp .lt 20, 3) := by decide +kernel
theorem dX0_isWanting_116 : decode cX0_isWanting 116 = .ok (.aload_n 0, 1) := by decide +kernel
theorem dX0_isWanting_117 : decode cX0_isWanting 117 = .ok (.aload_n 0, 1) := by decide +kernel
theorem dX0_isWanting_118 : decode cX0_isWanting 118 = .ok (.getfield 24, 3) := by decide +kernel
theorem dX0_isWanting_121 : decode cX0_isWanting 121 = .ok (.aload_n 0, 1) := by decide +kernel
theorem dX0_isWanting_122 : decode cX0_isWanting 122 = .ok (.iload_n 2, 1) := by decide +kernel
theorem dX0_isWanting_123 : decode cX0_isWanting 123 = .ok (.invokevirtual 90, 3) := by decide +kernel
theorem dX0_isWanting_126 : decode cX0_isWanting 126 = .ok (.invokevirtual 93, 3) := by decide +kernel
theorem dX0_isWanting_129 : decode cX0_isWanting 129 = .ok (.iload_n 2, 1) := by decide +kernel
theorem dX0_isWanting_130 : decode cX0_isWanting 130 = .ok (.if_icmp .ne 7, 3) := by decide +kernel
theorem dX0_isWanting_133 : decode cX0_isWanting 133 = .ok (.iconst 1, 1) := by decide +kernel
theorem dX0_isWanting_134 : decode cX0_isWanting 134 = .ok (.goto 4, 3) := by decide +kernel
theorem dX0_isWanting_137 : decode cX0_isWanting 137 = .ok (.iconst 0, 1) := by decide +kernel
theorem dX0_isWanting_138 : decode cX0_isWanting 138 = .ok (.ireturn, 1) := by decide +kernel
theorem dX0_isWanting_139 : decode cX0_isWanting 139 = .ok (.aload_n 0, 1) := by decide +kernel
theorem dX0_isWanting_140 : decode cX0_isWanting 140 = .ok (.getfield 27, 3) := by decide +kernel
theorem dX0_isWanting_143 : decode cX0_isWanting 143 = .ok (.iload_n 1, 1) := by decide +kernel
theorem dX0_isWanting_144 : decode cX0_isWanting 144 = .ok (.iaload, 1) := by decide +kernel
theorem dX0_isWanting_145 : decode cX0_isWanting 145 = .ok (.iload_n 2, 1) := by decide +kernel
theorem dX0_isWanting_146 : decode cX0_isWanting 146 = .ok (.if_icmp .ne 22, 3) := by decide +kernel
theorem dX0_isWanting_149 : decode cX0_isWanting 149 = .ok (.aload_n 0, 1) := by decide +kernel
theorem dX0_isWanting_150 : decode cX0_isWanting 150 = .ok (.getfield 21, 3) := by decide +kernel
theorem dX0_isWanting_153 : decode cX0_isWanting 153 = .ok (.iload_n 1, 1) := by decide +kernel
theorem dX0_isWanting_154 : decode cX0_isWanting 154 = .ok (.iaload, 1) := by decide +kernel
theorem dX0_isWanting_155 : decode cX0_isWanting 155 = .ok (.aload_n 0, 1) := by decide +kernel
theorem dX0_isWanting_156 : decode cX0_isWanting 156 = .ok (.getfield 21, 3) := by decide +kernel
theorem dX0_isWanting_159 : decode cX0_isWanting 159 = .ok (.iload_n 2, 1) := by decide +kernel
theorem dX0_isWanting_160 : decode cX0_isWanting 160 = .ok (.iaload, 1) := by decide +kernel
theorem dX0_isWanting_161 : decode cX0_isWanting 161 = .ok (.if_icmp .eq 7, 3) := by decide +kernel
theorem dX0_isWanting_164 : decode cX0_isWanting 164 = .ok (.iconst 1, 1) := by decide +kernel
theorem dX0_isWanting_165 : decode cX0_isWanting 165 = .ok (.goto 4, 3) := by decide +kernel
theorem dX0_isWanting_168 : decode cX0_isWanting 168 = .ok (.iconst 0, 1) := by decide +kernel
theorem dX0_isWanting_169 : decode cX0_isWanting 169 = .ok (.ireturn, 1) := by decide +kernel
theorem dX0_isWanting_170 : decode cX0_isWanting 170 = .ok (.aload_n 0, 1) := by decide +kernel
theorem dX0_isWanting_171 : decode cX0_isWanting 171 = .ok (.getfield 27, 3) := by decide +kernel
theorem dX0_isWanting_174 : decode cX0_isWanting 174 = .ok (.iload_n 1, 1) := by decide +kernel
theorem dX0_isWanting_175 : decode cX0_isWanting 175 = .ok (.iaload, 1) := by decide +kernel
theorem dX0_isWanting_176 : decode cX0_isWanting 176 = .ok (.iload_n 2, 1) := by decide +kernel
theorem dX0_isWanting_177 : decode cX0_isWanting 177 = .ok (.if_icmp .eq 12, 3) := by decide +kernel
theorem dX0_isWanting_180 : decode cX0_isWanting 180 = .ok (.aload_n 0, 1) := by decide +kernel
theorem dX0_isWanting_181 : decode cX0_isWanting 181 = .ok (.iload_n 2, 1) := by decide +kernel
theorem dX0_isWanting_182 : decode cX0_isWanting 182 = .ok (.iload_n 1, 1) := by decide +kernel
theorem dX0_isWanting_183 : decode cX0_isWanting 183 = .ok (.invokevirtual 97, 3) := by decide +kernel
theorem dX0_isWanting_186 : decode cX0_isWanting 186 = .ok (.ifCond .eq 7, 3) := by decide +kernel
theorem dX0_isWanting_189 : decode cX0_isWanting 189 = .ok (.iconst 1, 1) := by decide +kernel
theorem dX0_isWanting_190 : decode cX0_isWanting 190 = .ok (.goto 4, 3) := by decide +kernel
theorem dX0_isWanting_193 : decode cX0_isWanting 193 = .ok (.iconst 0, 1) := by decide +kernel
theorem dX0_isWanting_194 : decode cX0_isWanting 194 = .ok (.ireturn, 1) := by decide +kernel
theorem dX0_isWanting_195 : decode cX0_isWanting 195 = .ok (.iconst 0, 1) := by decide +kernel
theorem dX0_isWanting_196 : decode cX0_isWanting 196 = .ok (.ireturn, 1) := by decide +kernel
theorem dX0_besides_0 : decode cX0_besides 0 = .ok (.aload_n 0, 1) := by decide +kernel
theorem dX0_besides_1 : decode cX0_besides 1 = .ok (.getfield 15, 3) := by decide +kernel
theorem dX0_besides_4 : decode cX0_besides 4 = .ok (.iload_n 1, 1) := by decide +kernel
theorem dX0_besides_5 : decode cX0_besides 5 = .ok (.iaload, 1) := by decide +kernel
theorem dX0_besides_6 : decode cX0_besides 6 = .ok (.iconst (-1), 1) := by decide +kernel
theorem dX0_besides_7 : decode cX0_besides 7 = .ok (.if_icmp .ne 7, 3) := by decide +kernel
theorem dX0_besides_10 : decode cX0_besides 10 = .ok (.iconst 0, 1) := by decide +kernel
theorem dX0_besides_11 : decode cX0_besides 11 = .ok (.goto 14, 3) := by decide +kernel
theorem dX0_besides_14 : decode cX0_besides 14 = .ok (.aload_n 0, 1) := by decide +kernel
theorem dX0_besides_15 : decode cX0_besides 15 = .ok (.getfield 36, 3) := by decide +kernel
theorem dX0_besides_18 : decode cX0_besides 18 = .ok (.aload_n 0, 1) := by decide +kernel
theorem dX0_besides_19 : decode cX0_besides 19 = .ok (.getfield 15, 3) := by decide +kernel
theorem dX0_besides_22 : decode cX0_besides 22 = .ok (.iload_n 1, 1) := by decide +kernel
theorem dX0_besides_23 : decode cX0_besides 23 = .ok (.iaload, 1) := by decide +kernel
theorem dX0_besides_24 : decode cX0_besides 24 = .ok (.iaload, 1) := by decide +kernel
theorem dX0_besides_25 : decode cX0_besides 25 = .ok (.ireturn, 1) := by decide +kernel
theorem dX0_isElderTwoAbove_0 : decode cX0_isElderTwoAbove 0 = .ok (.aload_n 0, 1) := by decide +kernel
theorem dX0_isElderTwoAbove_1 : decode cX0_isElderTwoAbove 1 = .ok (.getfield 15, 3) := by decide +kernel
theorem dX0_isElderTwoAbove_4 : decode cX0_isElderTwoAbove 4 = .ok (.iload_n 1, 1) := by decide +kernel
theorem dX0_isElderTwoAbove_5 : decode cX0_isElderTwoAbove 5 = .ok (.iaload, 1) := by decide +kernel
theorem dX0_isElderTwoAbove_6 : decode cX0_isElderTwoAbove 6 = .ok (.iconst (-1), 1) := by decide +kernel
theorem dX0_isElderTwoAbove_7 : decode cX0_isElderTwoAbove 7 = .ok (.if_icmp .eq 39, 3) := by decide +kernel
theorem dX0_isElderTwoAbove_10 : decode cX0_isElderTwoAbove 10 = .ok (.aload_n 0, 1) := by decide +kernel
theorem dX0_isElderTwoAbove_11 : decode cX0_isElderTwoAbove 11 = .ok (.getfield 15, 3) := by decide +kernel
theorem dX0_isElderTwoAbove_14 : decode cX0_isElderTwoAbove 14 = .ok (.iload_n 1, 1) := by decide +kernel
theorem dX0_isElderTwoAbove_15 : decode cX0_isElderTwoAbove 15 = .ok (.iaload, 1) := by decide +kernel
theorem dX0_isElderTwoAbove_16 : decode cX0_isElderTwoAbove 16 = .ok (.aload_n 0, 1) := by decide +kernel
theorem dX0_isElderTwoAbove_17 : decode cX0_isElderTwoAbove 17 = .ok (.getfield 15, 3) := by decide +kernel
theorem dX0_isElderTwoAbove_20 : decode cX0_isElderTwoAbove 20 = .ok (.iload_n 2, 1) := by decide +kernel
theorem dX0_isElderTwoAbove_21 : decode cX0_isElderTwoAbove 21 = .ok (.iaload, 1) := by decide +kernel
theorem dX0_isElderTwoAbove_22 : decode cX0_isElderTwoAbove 22 = .ok (.iconst 2, 1) := by decide +kernel
theorem dX0_isElderTwoAbove_23 : decode cX0_isElderTwoAbove 23 = .ok (.isub, 1) := by decide +kernel
theorem dX0_isElderTwoAbove_24 : decode cX0_isElderTwoAbove 24 = .ok (.if_icmp .ne 22, 3) := by decide +kernel
theorem dX0_isElderTwoAbove_27 : decode cX0_isElderTwoAbove 27 = .ok (.aload_n 0, 1) := by decide +kernel
theorem dX0_isElderTwoAbove_28 : decode cX0_isElderTwoAbove 28 = .ok (.getfield 18, 3) := by decide +kernel
theorem dX0_isElderTwoAbove_31 : decode cX0_isElderTwoAbove 31 = .ok (.iload_n 1, 1) := by decide +kernel
theorem dX0_isElderTwoAbove_32 : decode cX0_isElderTwoAbove 32 = .ok (.iaload, 1) := by decide +kernel
theorem dX0_isElderTwoAbove_33 : decode cX0_isElderTwoAbove 33 = .ok (.aload_n 0, 1) := by decide +kernel
theorem dX0_isElderTwoAbove_34 : decode cX0_isElderTwoAbove 34 = .ok (.getfield 18, 3) := by decide +kernel
theorem dX0_isElderTwoAbove_37 : decode cX0_isElderTwoAbove 37 = .ok (.iload_n 2, 1) := by decide +kernel
theorem dX0_isElderTwoAbove_38 : decode cX0_isElderTwoAbove 38 = .ok (.iaload, 1) := by decide +kernel
theorem dX0_isElderTwoAbove_39 : decode cX0_isElderTwoAbove 39 = .ok (.if_icmp .le 7, 3) := by decide +kernel
theorem dX0_isElderTwoAbove_42 : decode cX0_isElderTwoAbove 42 = .ok (.iconst 1, 1) := by decide +kernel
theorem dX0_isElderTwoAbove_43 : decode cX0_isElderTwoAbove 43 = .ok (.goto 4, 3) := by decide +kernel
theorem dX0_isElderTwoAbove_46 : decode cX0_isElderTwoAbove 46 = .ok (.iconst 0, 1) := by decide +kernel
theorem dX0_isElderTwoAbove_47 : decode cX0_isElderTwoAbove 47 = .ok (.ireturn, 1) := by decide +kernel
theorem dX0_mostBy_0 : decode cX0_mostBy 0 = .ok (.iconst (-1), 1) := by decide +kernel
theorem dX0_mostBy_1 : decode cX0_mostBy 1 = .ok (.istore_n 3, 1) := by decide +kernel
theorem dX0_mostBy_2 : decode cX0_mostBy 2 = .ok (.iconst 0, 1) := by decide +kernel
theorem dX0_mostBy_3 : decode cX0_mostBy 3 = .ok (.istore 4, 2) := by decide +kernel
theorem dX0_mostBy_5 : decode cX0_mostBy 5 = .ok (.iload 4, 2) := by decide +kernel
theorem dX0_mostBy_7 : decode cX0_mostBy 7 = .ok (.aload_n 0, 1) := by decide +kernel
theorem dX0_mostBy_8 : decode cX0_mostBy 8 = .ok (.getfield 58, 3) := by decide +kernel
theorem dX0_mostBy_11 : decode cX0_mostBy 11 = .ok (.if_icmp .ge 36, 3) := by decide +kernel
theorem dX0_mostBy_14 : decode cX0_mostBy 14 = .ok (.iload_n 2, 1) := by decide +kernel
theorem dX0_mostBy_15 : decode cX0_mostBy 15 = .ok (.iload 4, 2) := by decide +kernel
theorem dX0_mostBy_17 : decode cX0_mostBy 17 = .ok (.ishr, 1) := by decide +kernel
theorem dX0_mostBy_18 : decode cX0_mostBy 18 = .ok (.iconst 1, 1) := by decide +kernel
theorem dX0_mostBy_19 : decode cX0_mostBy 19 = .ok (.iand, 1) := by decide +kernel
theorem dX0_mostBy_20 : decode cX0_mostBy 20 = .ok (.ifCond .eq 21, 3) := by decide +kernel
theorem dX0_mostBy_23 : decode cX0_mostBy 23 = .ok (.iload_n 3, 1) := by decide +kernel
theorem dX0_mostBy_24 : decode cX0_mostBy 24 = .ok (.iconst (-1), 1) := by decide +kernel
theorem dX0_mostBy_25 : decode cX0_mostBy 25 = .ok (.if_icmp .eq 13, 3) := by decide +kernel
theorem dX0_mostBy_28 : decode cX0_mostBy 28 = .ok (.aload_n 1, 1) := by decide +kernel
theorem dX0_mostBy_29 : decode cX0_mostBy 29 = .ok (.iload 4, 2) := by decide +kernel
theorem dX0_mostBy_31 : decode cX0_mostBy 31 = .ok (.iaload, 1) := by decide +kernel
theorem dX0_mostBy_32 : decode cX0_mostBy 32 = .ok (.aload_n 1, 1) := by decide +kernel
theorem dX0_mostBy_33 : decode cX0_mostBy 33 = .ok (.iload_n 3, 1) := by decide +kernel
theorem dX0_mostBy_34 : decode cX0_mostBy 34 = .ok (.iaload, 1) := by decide +kernel
theorem dX0_mostBy_35 : decode cX0_mostBy 35 = .ok (.if_icmp .le 6, 3) := by decide +kernel
theorem dX0_mostBy_38 : decode cX0_mostBy 38 = .ok (.iload 4, 2) := by decide +kernel
theorem dX0_mostBy_40 : decode cX0_mostBy 40 = .ok (.istore_n 3, 1) := by decide +kernel
theorem dX0_mostBy_41 : decode cX0_mostBy 41 = .ok (.iinc 4 1, 3) := by decide +kernel
theorem dX0_mostBy_44 : decode cX0_mostBy 44 = .ok (.goto (-39), 3) := by decide +kernel
theorem dX0_mostBy_47 : decode cX0_mostBy 47 = .ok (.iload_n 3, 1) := by decide +kernel
theorem dX0_mostBy_48 : decode cX0_mostBy 48 = .ok (.ireturn, 1) := by decide +kernel
theorem dX0_leastOf_0 : decode cX0_leastOf 0 = .ok (.iconst 0, 1) := by decide +kernel
theorem dX0_leastOf_1 : decode cX0_leastOf 1 = .ok (.istore_n 2, 1) := by decide +kernel
theorem dX0_leastOf_2 : decode cX0_leastOf 2 = .ok (.iload_n 2, 1) := by decide +kernel
theorem dX0_leastOf_3 : decode cX0_leastOf 3 = .ok (.aload_n 0, 1) := by decide +kernel
theorem dX0_leastOf_4 : decode cX0_leastOf 4 = .ok (.getfield 58, 3) := by decide +kernel
theorem dX0_leastOf_7 : decode cX0_leastOf 7 = .ok (.if_icmp .ge 19, 3) := by decide +kernel
theorem dX0_leastOf_10 : decode cX0_leastOf 10 = .ok (.iload_n 1, 1) := by decide +kernel
theorem dX0_leastOf_11 : decode cX0_leastOf 11 = .ok (.iload_n 2, 1) := by decide +kernel
theorem dX0_leastOf_12 : decode cX0_leastOf 12 = .ok (.ishr, 1) := by decide +kernel
theorem dX0_leastOf_13 : decode cX0_leastOf 13 = .ok (.iconst 1, 1) := by decide +kernel
theorem dX0_leastOf_14 : decode cX0_leastOf 14 = .ok (.iand, 1) := by decide +kernel
theorem dX0_leastOf_15 : decode cX0_leastOf 15 = .ok (.ifCond .eq 5, 3) := by decide +kernel
theorem dX0_leastOf_18 : decode cX0_leastOf 18 = .ok (.iload_n 2, 1) := by decide +kernel
theorem dX0_leastOf_19 : decode cX0_leastOf 19 = .ok (.ireturn, 1) := by decide +kernel
theorem dX0_leastOf_20 : decode cX0_leastOf 20 = .ok (.iinc 2 1, 3) := by decide +kernel
theorem dX0_leastOf_23 : decode cX0_leastOf 23 = .ok (.goto (-21), 3) := by decide +kernel
theorem dX0_leastOf_26 : decode cX0_leastOf 26 = .ok (.iconst (-1), 1) := by decide +kernel
theorem dX0_leastOf_27 : decode cX0_leastOf 27 = .ok (.ireturn, 1) := by decide +kernel
theorem dX0_counting_0 : decode cX0_counting 0 = .ok (.iconst 0, 1) := by decide +kernel
theorem dX0_counting_1 : decode cX0_counting 1 = .ok (.istore_n 1, 1) := by decide +kernel
theorem dX0_counting_2 : decode cX0_counting 2 = .ok (.iconst 0, 1) := by decide +kernel
theorem dX0_counting_3 : decode cX0_counting 3 = .ok (.istore_n 2, 1) := by decide +kernel
theorem dX0_counting_4 : decode cX0_counting 4 = .ok (.iload_n 2, 1) := by decide +kernel
theorem dX0_counting_5 : decode cX0_counting 5 = .ok (.aload_n 0, 1) := by decide +kernel
theorem dX0_counting_6 : decode cX0_counting 6 = .ok (.getfield 58, 3) := by decide +kernel
theorem dX0_counting_9 : decode cX0_counting 9 = .ok (.if_icmp .ge 26, 3) := by decide +kernel
theorem dX0_counting_12 : decode cX0_counting 12 = .ok (.aload_n 0, 1) := by decide +kernel
theorem dX0_counting_13 : decode cX0_counting 13 = .ok (.getfield 9, 3) := by decide +kernel
theorem dX0_counting_16 : decode cX0_counting 16 = .ok (.iload_n 2, 1) := by decide +kernel
theorem dX0_counting_17 : decode cX0_counting 17 = .ok (.iaload, 1) := by decide +kernel
theorem dX0_counting_18 : decode cX0_counting 18 = .ok (.bipush 6, 2) := by decide +kernel
theorem dX0_counting_20 : decode cX0_counting 20 = .ok (.if_icmp .eq 9, 3) := by decide +kernel
theorem dX0_counting_23 : decode cX0_counting 23 = .ok (.iload_n 1, 1) := by decide +kernel
theorem dX0_counting_24 : decode cX0_counting 24 = .ok (.iconst 1, 1) := by decide +kernel
theorem dX0_counting_25 : decode cX0_counting 25 = .ok (.iload_n 2, 1) := by decide +kernel
theorem dX0_counting_26 : decode cX0_counting 26 = .ok (.ishl, 1) := by decide +kernel
theorem dX0_counting_27 : decode cX0_counting 27 = .ok (.ior, 1) := by decide +kernel
theorem dX0_counting_28 : decode cX0_counting 28 = .ok (.istore_n 1, 1) := by decide +kernel
theorem dX0_counting_29 : decode cX0_counting 29 = .ok (.iinc 2 1, 3) := by decide +kernel
theorem dX0_counting_32 : decode cX0_counting 32 = .ok (.goto (-28), 3) := by decide +kernel
theorem dX0_counting_35 : decode cX0_counting 35 = .ok (.iload_n 1, 1) := by decide +kernel
theorem dX0_counting_36 : decode cX0_counting 36 = .ok (.ireturn, 1) := by decide +kernel
theorem dX0_judgesOf_0 : decode cX0_judgesOf 0 = .ok (.aload_n 0, 1) := by decide +kernel
theorem dX0_judgesOf_1 : decode cX0_judgesOf 1 = .ok (.getfield 15, 3) := by decide +kernel
theorem dX0_judgesOf_4 : decode cX0_judgesOf 4 = .ok (.iload_n 1, 1) := by decide +kernel
theorem dX0_judgesOf_5 : decode cX0_judgesOf 5 = .ok (.iaload, 1) := by decide +kernel
theorem dX0_judgesOf_6 : decode cX0_judgesOf 6 = .ok (.istore_n 3, 1) := by decide +kernel
theorem dX0_judgesOf_7 : decode cX0_judgesOf 7 = .ok (.iload_n 3, 1) := by decide +kernel
theorem dX0_judgesOf_8 : decode cX0_judgesOf 8 = .ok (.iconst (-1), 1) := by decide +kernel
theorem dX0_judgesOf_9 : decode cX0_judgesOf 9 = .ok (.if_icmp .eq 25, 3) := by decide +kernel
theorem dX0_judgesOf_12 : decode cX0_judgesOf 12 = .ok (.iload_n 3, 1) := by decide +kernel
theorem dX0_judgesOf_13 : decode cX0_judgesOf 13 = .ok (.iconst 2, 1) := by decide +kernel
theorem dX0_judgesOf_14 : decode cX0_judgesOf 14 = .ok (.iadd, 1) := by decide +kernel
theorem dX0_judgesOf_15 : decode cX0_judgesOf 15 = .ok (.invokestatic 84, 3) := by decide +kernel
theorem dX0_judgesOf_18 : decode cX0_judgesOf 18 = .ok (.ifCond .eq 16, 3) := by decide +kernel
theorem dX0_judgesOf_21 : decode cX0_judgesOf 21 = .ok (.aload_n 0, 1) := by decide +kernel
theorem dX0_judgesOf_22 : decode cX0_judgesOf 22 = .ok (.getfield 36, 3) := by decide +kernel
theorem dX0_judgesOf_25 : decode cX0_judgesOf 25 = .ok (.iload_n 3, 1) := by decide +kernel
theorem dX0_judgesOf_26 : decode cX0_judgesOf 26 = .ok (.iconst 2, 1) := by decide +kernel
theorem dX0_judgesOf_27 : decode cX0_judgesOf 27 = .ok (.iadd, 1) := by decide +kernel
theorem dX0_judgesOf_28 : decode cX0_judgesOf 28 = .ok (.iaload, 1) := by decide +kernel
theorem dX0_judgesOf_29 : decode cX0_judgesOf 29 = .ok (.iload_n 2, 1) := by decide +kernel
theorem dX0_judgesOf_30 : decode cX0_judgesOf 30 = .ok (.iand, 1) := by decide +kernel
theorem dX0_judgesOf_31 : decode cX0_judgesOf 31 = .ok (.goto 4, 3) := by decide +kernel
theorem dX0_judgesOf_34 : decode cX0_judgesOf 34 = .ok (.iconst 0, 1) := by decide +kernel
theorem dX0_judgesOf_35 : decode cX0_judgesOf 35 = .ok (.ireturn, 1) := by decide +kernel
theorem dX0_wanting_0 : decode cX0_wanting 0 = .ok (.iconst 0, 1) := by decide +kernel
theorem dX0_wanting_1 : decode cX0_wanting 1 = .ok (.istore_n 3, 1) := by decide +kernel
theorem dX0_wanting_2 : decode cX0_wanting 2 = .ok (.iconst 0, 1) := by decide +kernel
theorem dX0_wanting_3 : decode cX0_wanting 3 = .ok (.istore 4, 2) := by decide +kernel
theorem dX0_wanting_5 : decode cX0_wanting 5 = .ok (.iload 4, 2) := by decide +kernel
theorem dX0_wanting_7 : decode cX0_wanting 7 = .ok (.aload_n 0, 1) := by decide +kernel
theorem dX0_wanting_8 : decode cX0_wanting 8 = .ok (.getfield 58, 3) := by decide +kernel
theorem dX0_wanting_11 : decode cX0_wanting 11 = .ok (.if_icmp .ge 35, 3) := by decide +kernel
theorem dX0_wanting_14 : decode cX0_wanting 14 = .ok (.iload_n 1, 1) := by decide +kernel
theorem dX0_wanting_15 : decode cX0_wanting 15 = .ok (.iload 4, 2) := by decide +kernel
theorem dX0_wanting_17 : decode cX0_wanting 17 = .ok (.ishr, 1) := by decide +kernel
theorem dX0_wanting_18 : decode cX0_wanting 18 = .ok (.iconst 1, 1) := by decide +kernel
theorem dX0_wanting_19 : decode cX0_wanting 19 = .ok (.iand, 1) := by decide +kernel
theorem dX0_wanting_20 : decode cX0_wanting 20 = .ok (.ifCond .eq 20, 3) := by decide +kernel
theorem dX0_wanting_23 : decode cX0_wanting 23 = .ok (.aload_n 0, 1) := by decide +kernel
theorem dX0_wanting_24 : decode cX0_wanting 24 = .ok (.iload 4, 2) := by decide +kernel
theorem dX0_wanting_26 : decode cX0_wanting 26 = .ok (.iload_n 2, 1) := by decide +kernel
theorem dX0_wanting_27 : decode cX0_wanting 27 = .ok (.invokevirtual 101, 3) := by decide +kernel
theorem dX0_wanting_30 : decode cX0_wanting 30 = .ok (.ifCond .eq 10, 3) := by decide +kernel
theorem dX0_wanting_33 : decode cX0_wanting 33 = .ok (.iload_n 3, 1) := by decide +kernel
theorem dX0_wanting_34 : decode cX0_wanting 34 = .ok (.iconst 1, 1) := by decide +kernel
theorem dX0_wanting_35 : decode cX0_wanting 35 = .ok (.iload 4, 2) := by decide +kernel
theorem dX0_wanting_37 : decode cX0_wanting 37 = .ok (.ishl, 1) := by decide +kernel
theorem dX0_wanting_38 : decode cX0_wanting 38 = .ok (.ior, 1) := by decide +kernel
theorem dX0_wanting_39 : decode cX0_wanting 39 = .ok (.istore_n 3, 1) := by decide +kernel
theorem dX0_wanting_40 : decode cX0_wanting 40 = .ok (.iinc 4 1, 3) := by decide +kernel
theorem dX0_wanting_43 : decode cX0_wanting 43 = .ok (.goto (-38), 3) := by decide +kernel
theorem dX0_wanting_46 : decode cX0_wanting 46 = .ok (.iload_n 3, 1) := by decide +kernel
theorem dX0_wanting_47 : decode cX0_wanting 47 = .ok (.ireturn, 1) := by decide +kernel
theorem dX0_howManyMayWant_0 : decode cX0_howManyMayWant 0 = .ok (.iconst 0, 1) := by decide +kernel
theorem dX0_howManyMayWant_1 : decode cX0_howManyMayWant 1 = .ok (.istore_n 3, 1) := by decide +kernel
theorem dX0_howManyMayWant_2 : decode cX0_howManyMayWant 2 = .ok (.iconst 0, 1) := by decide +kernel
theorem dX0_howManyMayWant_3 : decode cX0_howManyMayWant 3 = .ok (.istore 4, 2) := by decide +kernel
theorem dX0_howManyMayWant_5 : decode cX0_howManyMayWant 5 = .ok (.iload 4, 2) := by decide +kernel
theorem dX0_howManyMayWant_7 : decode cX0_howManyMayWant 7 = .ok (.aload_n 0, 1) := by decide +kernel
theorem dX0_howManyMayWant_8 : decode cX0_howManyMayWant 8 = .ok (.getfield 58, 3) := by decide +kernel
theorem dX0_howManyMayWant_11 : decode cX0_howManyMayWant 11 = .ok (.if_icmp .ge 74, 3) := by decide +kernel
theorem dX0_howManyMayWant_14 : decode cX0_howManyMayWant 14 = .ok (.aload_n 0, 1) := by decide +kernel
theorem dX0_howManyMayWant_15 : decode cX0_howManyMayWant 15 = .ok (.getfield 9, 3) := by decide +kernel
theorem dX0_howManyMayWant_18 : decode cX0_howManyMayWant 18 = .ok (.iload 4, 2) := by decide +kernel
theorem dX0_howManyMayWant_20 : decode cX0_howManyMayWant 20 = .ok (.iaload, 1) := by decide +kernel
theorem dX0_howManyMayWant_21 : decode cX0_howManyMayWant 21 = .ok (.iconst 1, 1) := by decide +kernel
theorem dX0_howManyMayWant_22 : decode cX0_howManyMayWant 22 = .ok (.invokestatic 104, 3) := by decide +kernel
theorem dX0_howManyMayWant_25 : decode cX0_howManyMayWant 25 = .ok (.ifCond .eq 30, 3) := by decide +kernel
theorem dX0_howManyMayWant_28 : decode cX0_howManyMayWant 28 = .ok (.aload_n 0, 1) := by decide +kernel
theorem dX0_howManyMayWant_29 : decode cX0_howManyMayWant 29 = .ok (.getfield 9, 3) := by decide +kernel
theorem dX0_howManyMayWant_32 : decode cX0_howManyMayWant 32 = .ok (.iload 4, 2) := by decide +kernel
theorem dX0_howManyMayWant_34 : decode cX0_howManyMayWant 34 = .ok (.iaload, 1) := by decide +kernel
theorem dX0_howManyMayWant_35 : decode cX0_howManyMayWant 35 = .ok (.iconst 4, 1) := by decide +kernel
theorem dX0_howManyMayWant_36 : decode cX0_howManyMayWant 36 = .ok (.if_icmp .ne 23, 3) := by decide +kernel
theorem dX0_howManyMayWant_39 : decode cX0_howManyMayWant 39 = .ok (.aload_n 0, 1) := by decide +kernel
theorem dX0_howManyMayWant_40 : decode cX0_howManyMayWant 40 = .ok (.getfield 21, 3) := by decide +kernel
theorem dX0_howManyMayWant_43 : decode cX0_howManyMayWant 43 = .ok (.iload 4, 2) := by decide +kernel
theorem dX0_howManyMayWant_45 : decode cX0_howManyMayWant 45 = .ok (.iaload, 1) := by decide +kernel
theorem dX0_howManyMayWant_46 : decode cX0_howManyMayWant 46 = .ok (.aload_n 0, 1) := by decide +kernel
theorem dX0_howManyMayWant_47 : decode cX0_howManyMayWant 47 = .ok (.getfield 21, 3) := by decide +kernel
theorem dX0_howManyMayWant_50 : decode cX0_howManyMayWant 50 = .ok (.iload_n 2, 1) := by decide +kernel
theorem dX0_howManyMayWant_51 : decode cX0_howManyMayWant 51 = .ok (.iaload, 1) := by decide +kernel
theorem dX0_howManyMayWant_52 : decode cX0_howManyMayWant 52 = .ok (.if_icmp .eq 7, 3) := by decide +kernel
theorem dX0_howManyMayWant_55 : decode cX0_howManyMayWant 55 = .ok (.iconst 1, 1) := by decide +kernel
theorem dX0_howManyMayWant_56 : decode cX0_howManyMayWant 56 = .ok (.goto 4, 3) := by decide +kernel
theorem dX0_howManyMayWant_59 : decode cX0_howManyMayWant 59 = .ok (.iconst 0, 1) := by decide +kernel
theorem dX0_howManyMayWant_60 : decode cX0_howManyMayWant 60 = .ok (.istore 5, 2) := by decide +kernel
theorem dX0_howManyMayWant_62 : decode cX0_howManyMayWant 62 = .ok (.iload_n 1, 1) := by decide +kernel
theorem dX0_howManyMayWant_63 : decode cX0_howManyMayWant 63 = .ok (.iload 4, 2) := by decide +kernel
theorem dX0_howManyMayWant_65 : decode cX0_howManyMayWant 65 = .ok (.ishr, 1) := by decide +kernel
theorem dX0_howManyMayWant_66 : decode cX0_howManyMayWant 66 = .ok (.iconst 1, 1) := by decide +kernel
theorem dX0_howManyMayWant_67 : decode cX0_howManyMayWant 67 = .ok (.iand, 1) := by decide +kernel
theorem dX0_howManyMayWant_68 : decode cX0_howManyMayWant 68 = .ok (.ifCond .eq 11, 3) := by decide +kernel
theorem dX0_howManyMayWant_71 : decode cX0_howManyMayWant 71 = .ok (.iload 5, 2) := by decide +kernel
theorem dX0_howManyMayWant_73 : decode cX0_howManyMayWant 73 = .ok (.ifCond .eq 6, 3) := by decide +kernel
theorem dX0_howManyMayWant_76 : decode cX0_howManyMayWant 76 = .ok (.iinc 3 1, 3) := by decide +kernel
theorem dX0_howManyMayWant_79 : decode cX0_howManyMayWant 79 = .ok (.iinc 4 1, 3) := by decide +kernel
theorem dX0_howManyMayWant_82 : decode cX0_howManyMayWant 82 = .ok (.goto (-77), 3) := by decide +kernel
theorem dX0_howManyMayWant_85 : decode cX0_howManyMayWant 85 = .ok (.iload_n 3, 1) := by decide +kernel
theorem dX0_howManyMayWant_86 : decode cX0_howManyMayWant 86 = .ok (.ireturn, 1) := by decide +kernel
theorem dX0_ableToPlot_0 : decode cX0_ableToPlot 0 = .ok (.iconst 0, 1) := by decide +kernel
theorem dX0_ableToPlot_1 : decode cX0_ableToPlot 1 = .ok (.istore_n 1, 1) := by decide +kernel
theorem dX0_ableToPlot_2 : decode cX0_ableToPlot 2 = .ok (.iconst 0, 1) := by decide +kernel
theorem dX0_ableToPlot_3 : decode cX0_ableToPlot 3 = .ok (.istore_n 2, 1) := by decide +kernel
theorem dX0_ableToPlot_4 : decode cX0_ableToPlot 4 = .ok (.iload_n 2, 1) := by decide +kernel
theorem dX0_ableToPlot_5 : decode cX0_ableToPlot 5 = .ok (.aload_n 0, 1) := by decide +kernel
theorem dX0_ableToPlot_6 : decode cX0_ableToPlot 6 = .ok (.getfield 58, 3) := by decide +kernel
theorem dX0_ableToPlot_9 : decode cX0_ableToPlot 9 = .ok (.if_icmp .ge 38, 3) := by decide +kernel
theorem dX0_ableToPlot_12 : decode cX0_ableToPlot 12 = .ok (.aload_n 0, 1) := by decide +kernel
theorem dX0_ableToPlot_13 : decode cX0_ableToPlot 13 = .ok (.getfield 15, 3) := by decide +kernel
theorem dX0_ableToPlot_16 : decode cX0_ableToPlot 16 = .ok (.iload_n 2, 1) := by decide +kernel
theorem dX0_ableToPlot_17 : decode cX0_ableToPlot 17 = .ok (.iaload, 1) := by decide +kernel
theorem dX0_ableToPlot_18 : decode cX0_ableToPlot 18 = .ok (.iconst (-1), 1) := by decide +kernel
theorem dX0_ableToPlot_19 : decode cX0_ableToPlot 19 = .ok (.if_icmp .eq 22, 3) := by decide +kernel
theorem dX0_ableToPlot_22 : decode cX0_ableToPlot 22 = .ok (.aload_n 0, 1) := by decide +kernel
theorem dX0_ableToPlot_23 : decode cX0_ableToPlot 23 = .ok (.getfield 9, 3) := by decide +kernel
theorem dX0_ableToPlot_26 : decode cX0_ableToPlot 26 = .ok (.iload_n 2, 1) := by decide +kernel
theorem dX0_ableToPlot_27 : decode cX0_ableToPlot 27 = .ok (.iaload, 1) := by decide +kernel
theorem dX0_ableToPlot_28 : decode cX0_ableToPlot 28 = .ok (.iconst 1, 1) := by decide +kernel
theorem dX0_ableToPlot_29 : decode cX0_ableToPlot 29 = .ok (.invokestatic 104, 3) := by decide +kernel
theorem dX0_ableToPlot_32 : decode cX0_ableToPlot 32 = .ok (.ifCond .ne 9, 3) := by decide +kernel
theorem dX0_ableToPlot_35 : decode cX0_ableToPlot 35 = .ok (.iload_n 1, 1) := by decide +kernel
theorem dX0_ableToPlot_36 : decode cX0_ableToPlot 36 = .ok (.iconst 1, 1) := by decide +kernel
theorem dX0_ableToPlot_37 : decode cX0_ableToPlot 37 = .ok (.iload_n 2, 1) := by decide +kernel
theorem dX0_ableToPlot_38 : decode cX0_ableToPlot 38 = .ok (.ishl, 1) := by decide +kernel
theorem dX0_ableToPlot_39 : decode cX0_ableToPlot 39 = .ok (.ior, 1) := by decide +kernel
theorem dX0_ableToPlot_40 : decode cX0_ableToPlot 40 = .ok (.istore_n 1, 1) := by decide +kernel
theorem dX0_ableToPlot_41 : decode cX0_ableToPlot 41 = .ok (.iinc 2 1, 3) := by decide +kernel
theorem dX0_ableToPlot_44 : decode cX0_ableToPlot 44 = .ok (.goto (-40), 3) := by decide +kernel
theorem dX0_ableToPlot_47 : decode cX0_ableToPlot 47 = .ok (.iload_n 1, 1) := by decide +kernel
theorem dX0_ableToPlot_48 : decode cX0_ableToPlot 48 = .ok (.ireturn, 1) := by decide +kernel
theorem dX0_isEnough_0 : decode cX0_isEnough 0 = .ok (.iload_n 1, 1) := by decide +kernel
theorem dX0_isEnough_1 : decode cX0_isEnough 1 = .ok (.ifCond .le 19, 3) := by decide +kernel
theorem dX0_isEnough_4 : decode cX0_isEnough 4 = .ok (.iload_n 1, 1) := by decide +kernel
theorem dX0_isEnough_5 : decode cX0_isEnough 5 = .ok (.aload_n 0, 1) := by decide +kernel
theorem dX0_isEnough_6 : decode cX0_isEnough 6 = .ok (.getfield 39, 3) := by decide +kernel
theorem dX0_isEnough_9 : decode cX0_isEnough 9 = .ok (.iconst 1, 1) := by decide +kernel
theorem dX0_isEnough_10 : decode cX0_isEnough 10 = .ok (.iaload, 1) := by decide +kernel
theorem dX0_isEnough_11 : decode cX0_isEnough 11 = .ok (.imul, 1) := by decide +kernel
theorem dX0_isEnough_12 : decode cX0_isEnough 12 = .ok (.iload_n 2, 1) := by decide +kernel
theorem dX0_isEnough_13 : decode cX0_isEnough 13 = .ok (.if_icmp .lt 7, 3) := by decide +kernel
theorem dX0_isEnough_16 : decode cX0_isEnough 16 = .ok (.iconst 1, 1) := by decide +kernel
theorem dX0_isEnough_17 : decode cX0_isEnough 17 = .ok (.goto 4, 3) := by decide +kernel
theorem dX0_isEnough_20 : decode cX0_isEnough 20 = .ok (.iconst 0, 1) := by decide +kernel
theorem dX0_isEnough_21 : decode cX0_isEnough 21 = .ok (.ireturn, 1) := by decide +kernel
theorem dX0_falling_0 : decode cX0_falling 0 = .ok (.aload_n 0, 1) := by decide +kernel
theorem dX0_falling_1 : decode cX0_falling 1 = .ok (.invokevirtual 107, 3) := by decide +kernel
theorem dX0_falling_4 : decode cX0_falling 4 = .ok (.istore_n 1, 1) := by decide +kernel
theorem dX0_falling_5 : decode cX0_falling 5 = .ok (.iconst 0, 1) := by decide +kernel
theorem dX0_falling_6 : decode cX0_falling 6 = .ok (.istore_n 2, 1) := by decide +kernel
theorem dX0_falling_7 : decode cX0_falling 7 = .ok (.iconst 0, 1) := by decide +kernel
theorem dX0_falling_8 : decode cX0_falling 8 = .ok (.istore_n 3, 1) := by decide +kernel
theorem dX0_falling_9 : decode cX0_falling 9 = .ok (.iload_n 3, 1) := by decide +kernel
theorem dX0_falling_10 : decode cX0_falling 10 = .ok (.aload_n 0, 1) := by decide +kernel
theorem dX0_falling_11 : decode cX0_falling 11 = .ok (.getfield 58, 3) := by decide +kernel
theorem dX0_falling_14 : decode cX0_falling 14 = .ok (.if_icmp .ge 50, 3) := by decide +kernel
theorem dX0_falling_17 : decode cX0_falling 17 = .ok (.aload_n 0, 1) := by decide +kernel
theorem dX0_falling_18 : decode cX0_falling 18 = .ok (.iload_n 3, 1) := by decide +kernel
theorem dX0_falling_19 : decode cX0_falling 19 = .ok (.iload_n 1, 1) := by decide +kernel
theorem dX0_falling_20 : decode cX0_falling 20 = .ok (.invokevirtual 111, 3) := by decide +kernel
theorem dX0_falling_23 : decode cX0_falling 23 = .ok (.istore 4, 2) := by decide +kernel
theorem dX0_falling_25 : decode cX0_falling 25 = .ok (.iload 4, 2) := by decide +kernel
theorem dX0_falling_27 : decode cX0_falling 27 = .ok (.ifCond .eq 31, 3) := by decide +kernel
theorem dX0_falling_30 : decode cX0_falling 30 = .ok (.aload_n 0, 1) := by decide +kernel
theorem dX0_falling_31 : decode cX0_falling 31 = .ok (.aload_n 0, 1) := by decide +kernel
theorem dX0_falling_32 : decode cX0_falling 32 = .ok (.iload 4, 2) := by decide +kernel
theorem dX0_falling_34 : decode cX0_falling 34 = .ok (.iload_n 3, 1) := by decide +kernel
theorem dX0_falling_35 : decode cX0_falling 35 = .ok (.invokevirtual 115, 3) := by decide +kernel
theorem dX0_falling_38 : decode cX0_falling 38 = .ok (.invokestatic 71, 3) := by decide +kernel
theorem dX0_falling_41 : decode cX0_falling 41 = .ok (.iload 4, 2) := by decide +kernel
theorem dX0_falling_43 : decode cX0_falling 43 = .ok (.invokestatic 71, 3) := by decide +kernel
theorem dX0_falling_46 : decode cX0_falling 46 = .ok (.invokevirtual 118, 3) := by decide +kernel
theorem dX0_falling_49 : decode cX0_falling 49 = .ok (.ifCond .eq 9, 3) := by decide +kernel
theorem dX0_falling_52 : decode cX0_falling 52 = .ok (.iload_n 2, 1) := by decide +kernel
theorem dX0_falling_53 : decode cX0_falling 53 = .ok (.iconst 1, 1) := by decide +kernel
theorem dX0_falling_54 : decode cX0_falling 54 = .ok (.iload_n 3, 1) := by decide +kernel
theorem dX0_falling_55 : decode cX0_falling 55 = .ok (.ishl, 1) := by decide +kernel
theorem dX0_falling_56 : decode cX0_falling 56 = .ok (.ior, 1) := by decide +kernel
theorem dX0_falling_57 : decode cX0_falling 57 = .ok (.istore_n 2, 1) := by decide +kernel
theorem dX0_falling_58 : decode cX0_falling 58 = .ok (.iinc 3 1, 3) := by decide +kernel
theorem dX0_falling_61 : decode cX0_falling 61 = .ok (.goto (-52), 3) := by decide +kernel
theorem dX0_falling_64 : decode cX0_falling 64 = .ok (.iload_n 2, 1) := by decide +kernel
theorem dX0_falling_65 : decode cX0_falling 65 = .ok (.ireturn, 1) := by decide +kernel
theorem dX0_firstByLaw_0 : decode cX0_firstByLaw 0 = .ok (.aload_n 0, 1) := by decide +kernel
theorem dX0_firstByLaw_1 : decode cX0_firstByLaw 1 = .ok (.getfield 39, 3) := by decide +kernel
theorem dX0_firstByLaw_4 : decode cX0_firstByLaw 4 = .ok (.iconst 0, 1) := by decide +kernel
theorem dX0_firstByLaw_5 : decode cX0_firstByLaw 5 = .ok (.iaload, 1) := by decide +kernel
theorem dX0_firstByLaw_6 : decode cX0_firstByLaw 6 = .ok (.lookupswitch 46 #[(0, 26), (1, 36)], 26) := by decide +kernel
theorem dX0_firstByLaw_32 : decode cX0_firstByLaw 32 = .ok (.aload_n 0, 1) := by decide +kernel
theorem dX0_firstByLaw_33 : decode cX0_firstByLaw 33 = .ok (.aload_n 0, 1) := by decide +kernel
theorem dX0_firstByLaw_34 : decode cX0_firstByLaw 34 = .ok (.getfield 18, 3) := by decide +kernel
theorem dX0_firstByLaw_37 : decode cX0_firstByLaw 37 = .ok (.iload_n 1, 1) := by decide +kernel
theorem dX0_firstByLaw_38 : decode cX0_firstByLaw 38 = .ok (.invokevirtual 93, 3) := by decide +kernel
theorem dX0_firstByLaw_41 : decode cX0_firstByLaw 41 = .ok (.ireturn, 1) := by decide +kernel
theorem dX0_firstByLaw_42 : decode cX0_firstByLaw 42 = .ok (.aload_n 0, 1) := by decide +kernel
theorem dX0_firstByLaw_43 : decode cX0_firstByLaw 43 = .ok (.aload_n 0, 1) := by decide +kernel
theorem dX0_firstByLaw_44 : decode cX0_firstByLaw 44 = .ok (.getfield 24, 3) := by decide +kernel
theorem dX0_firstByLaw_47 : decode cX0_firstByLaw 47 = .ok (.iload_n 1, 1) := by decide +kernel
theorem dX0_firstByLaw_48 : decode cX0_firstByLaw 48 = .ok (.invokevirtual 93, 3) := by decide +kernel
theorem dX0_firstByLaw_51 : decode cX0_firstByLaw 51 = .ok (.ireturn, 1) := by decide +kernel
theorem dX0_firstByLaw_52 : decode cX0_firstByLaw 52 = .ok (.aload_n 0, 1) := by decide +kernel
theorem dX0_firstByLaw_53 : decode cX0_firstByLaw 53 = .ok (.iload_n 1, 1) := by decide +kernel
theorem dX0_firstByLaw_54 : decode cX0_firstByLaw 54 = .ok (.invokevirtual 121, 3) := by decide +kernel
theorem dX0_firstByLaw_57 : decode cX0_firstByLaw 57 = .ok (.ireturn, 1) := by decide +kernel
theorem dX0_pass_0 : decode cX0_pass 0 = .ok (.aload_n 0, 1) := by decide +kernel
theorem dX0_pass_1 : decode cX0_pass 1 = .ok (.getfield 64, 3) := by decide +kernel
theorem dX0_pass_4 : decode cX0_pass 4 = .ok (.istore_n 2, 1) := by decide +kernel
theorem dX0_pass_5 : decode cX0_pass 5 = .ok (.iconst 0, 1) := by decide +kernel
theorem dX0_pass_6 : decode cX0_pass 6 = .ok (.istore_n 3, 1) := by decide +kernel
theorem dX0_pass_7 : decode cX0_pass 7 = .ok (.iload_n 3, 1) := by decide +kernel
theorem dX0_pass_8 : decode cX0_pass 8 = .ok (.iload_n 1, 1) := by decide +kernel
theorem dX0_pass_9 : decode cX0_pass 9 = .ok (.if_icmp .ge 13, 3) := by decide +kernel
theorem dX0_pass_12 : decode cX0_pass 12 = .ok (.aload_n 0, 1) := by decide +kernel
theorem dX0_pass_13 : decode cX0_pass 13 = .ok (.invokevirtual 124, 3) := by decide +kernel
theorem dX0_pass_16 : decode cX0_pass 16 = .ok (.iinc 3 1, 3) := by decide +kernel
theorem dX0_pass_19 : decode cX0_pass 19 = .ok (.goto (-12), 3) := by decide +kernel
theorem dX0_pass_22 : decode cX0_pass 22 = .ok (.aload_n 0, 1) := by decide +kernel
theorem dX0_pass_23 : decode cX0_pass 23 = .ok (.getfield 64, 3) := by decide +kernel
theorem dX0_pass_26 : decode cX0_pass 26 = .ok (.iload_n 2, 1) := by decide +kernel
theorem dX0_pass_27 : decode cX0_pass 27 = .ok (.isub, 1) := by decide +kernel
theorem dX0_pass_28 : decode cX0_pass 28 = .ok (.ireturn, 1) := by decide +kernel
theorem dX0_keeps_0 : decode cX0_keeps 0 = .ok (.iconst 0, 1) := by decide +kernel
theorem dX0_keeps_1 : decode cX0_keeps 1 = .ok (.istore_n 3, 1) := by decide +kernel
theorem dX0_keeps_2 : decode cX0_keeps 2 = .ok (.iload_n 3, 1) := by decide +kernel
theorem dX0_keeps_3 : decode cX0_keeps 3 = .ok (.iload_n 2, 1) := by decide +kernel
theorem dX0_keeps_4 : decode cX0_keeps 4 = .ok (.if_icmp .ge 23, 3) := by decide +kernel
theorem dX0_keeps_7 : decode cX0_keeps 7 = .ok (.aload_n 0, 1) := by decide +kernel
theorem dX0_keeps_8 : decode cX0_keeps 8 = .ok (.getfield 15, 3) := by decide +kernel
theorem dX0_keeps_11 : decode cX0_keeps 11 = .ok (.iload_n 1, 1) := by decide +kernel
theorem dX0_keeps_12 : decode cX0_keeps 12 = .ok (.iaload, 1) := by decide +kernel
theorem dX0_keeps_13 : decode cX0_keeps 13 = .ok (.iconst (-1), 1) := by decide +kernel
theorem dX0_keeps_14 : decode cX0_keeps 14 = .ok (.if_icmp .eq 13, 3) := by decide +kernel
theorem dX0_keeps_17 : decode cX0_keeps 17 = .ok (.aload_n 0, 1) := by decide +kernel
theorem dX0_keeps_18 : decode cX0_keeps 18 = .ok (.invokevirtual 124, 3) := by decide +kernel
theorem dX0_keeps_21 : decode cX0_keeps 21 = .ok (.iinc 3 1, 3) := by decide +kernel
theorem dX0_keeps_24 : decode cX0_keeps 24 = .ok (.goto (-22), 3) := by decide +kernel
theorem dX0_keeps_27 : decode cX0_keeps 27 = .ok (.aload_n 0, 1) := by decide +kernel
theorem dX0_keeps_28 : decode cX0_keeps 28 = .ok (.getfield 15, 3) := by decide +kernel
theorem dX0_keeps_31 : decode cX0_keeps 31 = .ok (.iload_n 1, 1) := by decide +kernel
theorem dX0_keeps_32 : decode cX0_keeps 32 = .ok (.iaload, 1) := by decide +kernel
theorem dX0_keeps_33 : decode cX0_keeps 33 = .ok (.iconst (-1), 1) := by decide +kernel
theorem dX0_keeps_34 : decode cX0_keeps 34 = .ok (.if_icmp .eq 7, 3) := by decide +kernel
theorem dX0_keeps_37 : decode cX0_keeps 37 = .ok (.iconst 1, 1) := by decide +kernel
theorem dX0_keeps_38 : decode cX0_keeps 38 = .ok (.goto 4, 3) := by decide +kernel
theorem dX0_keeps_41 : decode cX0_keeps 41 = .ok (.iconst 0, 1) := by decide +kernel
theorem dX0_keeps_42 : decode cX0_keeps 42 = .ok (.ireturn, 1) := by decide +kernel
theorem dX0_goMonth_0 : decode cX0_goMonth 0 = .ok (.aload_n 0, 1) := by decide +kernel
theorem dX0_goMonth_1 : decode cX0_goMonth 1 = .ok (.aload_n 0, 1) := by decide +kernel
theorem dX0_goMonth_2 : decode cX0_goMonth 2 = .ok (.invokevirtual 127, 3) := by decide +kernel
theorem dX0_goMonth_5 : decode cX0_goMonth 5 = .ok (.invokevirtual 130, 3) := by decide +kernel
theorem dX0_goMonth_8 : decode cX0_goMonth 8 = .ok (.aload_n 0, 1) := by decide +kernel
theorem dX0_goMonth_9 : decode cX0_goMonth 9 = .ok (.invokevirtual 134, 3) := by decide +kernel
theorem dX0_goMonth_12 : decode cX0_goMonth 12 = .ok (.aload_n 0, 1) := by decide +kernel
theorem dX0_goMonth_13 : decode cX0_goMonth 13 = .ok (.invokevirtual 137, 3) := by decide +kernel
theorem dX0_goMonth_16 : decode cX0_goMonth 16 = .ok (.aload_n 0, 1) := by decide +kernel
theorem dX0_goMonth_17 : decode cX0_goMonth 17 = .ok (.getfield 61, 3) := by decide +kernel
theorem dX0_goMonth_20 : decode cX0_goMonth 20 = .ok (.bipush 12, 2) := by decide +kernel
theorem dX0_goMonth_22 : decode cX0_goMonth 22 = .ok (.irem, 1) := by decide +kernel
theorem dX0_goMonth_23 : decode cX0_goMonth 23 = .ok (.bipush 11, 2) := by decide +kernel
theorem dX0_goMonth_25 : decode cX0_goMonth 25 = .ok (.if_icmp .ne 7, 3) := by decide +kernel
theorem dX0_goMonth_28 : decode cX0_goMonth 28 = .ok (.aload_n 0, 1) := by decide +kernel
theorem dX0_goMonth_29 : decode cX0_goMonth 29 = .ok (.invokevirtual 140, 3) := by decide +kernel
theorem dX0_goMonth_32 : decode cX0_goMonth 32 = .ok (.aload_n 0, 1) := by decide +kernel
theorem dX0_goMonth_33 : decode cX0_goMonth 33 = .ok (.dup, 1) := by decide +kernel
theorem dX0_goMonth_34 : decode cX0_goMonth 34 = .ok (.getfield 61, 3) := by decide +kernel
theorem dX0_goMonth_37 : decode cX0_goMonth 37 = .ok (.iconst 1, 1) := by decide +kernel
theorem dX0_goMonth_38 : decode cX0_goMonth 38 = .ok (.iadd, 1) := by decide +kernel
theorem dX0_goMonth_39 : decode cX0_goMonth 39 = .ok (.putfield 61, 3) := by decide +kernel
theorem dX0_goMonth_42 : decode cX0_goMonth 42 = .ok (.return_, 1) := by decide +kernel
theorem dX0_turnOut_0 : decode cX0_turnOut 0 = .ok (.iconst 0, 1) := by decide +kernel
theorem dX0_turnOut_1 : decode cX0_turnOut 1 = .ok (.istore_n 2, 1) := by decide +kernel
theorem dX0_turnOut_2 : decode cX0_turnOut 2 = .ok (.iload_n 2, 1) := by decide +kernel
theorem dX0_turnOut_3 : decode cX0_turnOut 3 = .ok (.aload_n 0, 1) := by decide +kernel
theorem dX0_turnOut_4 : decode cX0_turnOut 4 = .ok (.getfield 58, 3) := by decide +kernel
theorem dX0_turnOut_7 : decode cX0_turnOut 7 = .ok (.if_icmp .ge 27, 3) := by decide +kernel
theorem dX0_turnOut_10 : decode cX0_turnOut 10 = .ok (.iload_n 1, 1) := by decide +kernel
theorem dX0_turnOut_11 : decode cX0_turnOut 11 = .ok (.ifCond .eq 23, 3) := by decide +kernel
theorem dX0_turnOut_14 : decode cX0_turnOut 14 = .ok (.iload_n 1, 1) := by decide +kernel
theorem dX0_turnOut_15 : decode cX0_turnOut 15 = .ok (.iload_n 2, 1) := by decide +kernel
theorem dX0_turnOut_16 : decode cX0_turnOut 16 = .ok (.ishr, 1) := by decide +kernel
theorem dX0_turnOut_17 : decode cX0_turnOut 17 = .ok (.iconst 1, 1) := by decide +kernel
theorem dX0_turnOut_18 : decode cX0_turnOut 18 = .ok (.iand, 1) := by decide +kernel
theorem dX0_turnOut_19 : decode cX0_turnOut 19 = .ok (.ifCond .eq 9, 3) := by decide +kernel
theorem dX0_turnOut_22 : decode cX0_turnOut 22 = .ok (.aload_n 0, 1) := by decide +kernel
theorem dX0_turnOut_23 : decode cX0_turnOut 23 = .ok (.iload_n 2, 1) := by decide +kernel
theorem dX0_turnOut_24 : decode cX0_turnOut 24 = .ok (.iconst (-1), 1) := by decide +kernel
theorem dX0_turnOut_25 : decode cX0_turnOut 25 = .ok (.invokevirtual 80, 3) := by decide +kernel
theorem dX0_turnOut_28 : decode cX0_turnOut 28 = .ok (.iinc 2 1, 3) := by decide +kernel
theorem dX0_turnOut_31 : decode cX0_turnOut 31 = .ok (.goto (-29), 3) := by decide +kernel
theorem dX0_turnOut_34 : decode cX0_turnOut 34 = .ok (.aload_n 0, 1) := by decide +kernel
theorem dX0_turnOut_35 : decode cX0_turnOut 35 = .ok (.dup, 1) := by decide +kernel
theorem dX0_turnOut_36 : decode cX0_turnOut 36 = .ok (.getfield 64, 3) := by decide +kernel
theorem dX0_turnOut_39 : decode cX0_turnOut 39 = .ok (.iload_n 1, 1) := by decide +kernel
theorem dX0_turnOut_40 : decode cX0_turnOut 40 = .ok (.invokestatic 71, 3) := by decide +kernel
theorem dX0_turnOut_43 : decode cX0_turnOut 43 = .ok (.iadd, 1) := by decide +kernel
theorem dX0_turnOut_44 : decode cX0_turnOut 44 = .ok (.putfield 64, 3) := by decide +kernel
theorem dX0_turnOut_47 : decode cX0_turnOut 47 = .ok (.return_, 1) := by decide +kernel
theorem dX0_fillSeats_0 : decode cX0_fillSeats 0 = .ok (.iconst 0, 1) := by decide +kernel
theorem dX0_fillSeats_1 : decode cX0_fillSeats 1 = .ok (.istore_n 1, 1) := by decide +kernel
theorem dX0_fillSeats_2 : decode cX0_fillSeats 2 = .ok (.iload_n 1, 1) := by decide +kernel
theorem dX0_fillSeats_3 : decode cX0_fillSeats 3 = .ok (.bipush 7, 2) := by decide +kernel
theorem dX0_fillSeats_5 : decode cX0_fillSeats 5 = .ok (.if_icmp .ge 70, 3) := by decide +kernel
theorem dX0_fillSeats_8 : decode cX0_fillSeats 8 = .ok (.aload_n 0, 1) := by decide +kernel
theorem dX0_fillSeats_9 : decode cX0_fillSeats 9 = .ok (.getfield 33, 3) := by decide +kernel
theorem dX0_fillSeats_12 : decode cX0_fillSeats 12 = .ok (.iload_n 1, 1) := by decide +kernel
theorem dX0_fillSeats_13 : decode cX0_fillSeats 13 = .ok (.iaload, 1) := by decide +kernel
theorem dX0_fillSeats_14 : decode cX0_fillSeats 14 = .ok (.aload_n 0, 1) := by decide +kernel
theorem dX0_fillSeats_15 : decode cX0_fillSeats 15 = .ok (.iload_n 1, 1) := by decide +kernel
theorem dX0_fillSeats_16 : decode cX0_fillSeats 16 = .ok (.invokevirtual 77, 3) := by decide +kernel
theorem dX0_fillSeats_19 : decode cX0_fillSeats 19 = .ok (.isub, 1) := by decide +kernel
theorem dX0_fillSeats_20 : decode cX0_fillSeats 20 = .ok (.istore_n 2, 1) := by decide +kernel
theorem dX0_fillSeats_21 : decode cX0_fillSeats 21 = .ok (.iload_n 2, 1) := by decide +kernel
theorem dX0_fillSeats_22 : decode cX0_fillSeats 22 = .ok (.ifCond .le 47, 3) := by decide +kernel
theorem dX0_fillSeats_25 : decode cX0_fillSeats 25 = .ok (.aload_n 0, 1) := by decide +kernel
theorem dX0_fillSeats_26 : decode cX0_fillSeats 26 = .ok (.getfield 36, 3) := by decide +kernel
theorem dX0_fillSeats_29 : decode cX0_fillSeats 29 = .ok (.iload_n 1, 1) := by decide +kernel
theorem dX0_fillSeats_30 : decode cX0_fillSeats 30 = .ok (.iconst 1, 1) := by decide +kernel
theorem dX0_fillSeats_31 : decode cX0_fillSeats 31 = .ok (.iadd, 1) := by decide +kernel
theorem dX0_fillSeats_32 : decode cX0_fillSeats 32 = .ok (.iaload, 1) := by decide +kernel
theorem dX0_fillSeats_33 : decode cX0_fillSeats 33 = .ok (.ifCond .eq 36, 3) := by decide +kernel
theorem dX0_fillSeats_36 : decode cX0_fillSeats 36 = .ok (.aload_n 0, 1) := by decide +kernel
theorem dX0_fillSeats_37 : decode cX0_fillSeats 37 = .ok (.aload_n 0, 1) := by decide +kernel
theorem dX0_fillSeats_38 : decode cX0_fillSeats 38 = .ok (.getfield 36, 3) := by decide +kernel
theorem dX0_fillSeats_41 : decode cX0_fillSeats 41 = .ok (.iload_n 1, 1) := by decide +kernel
theorem dX0_fillSeats_42 : decode cX0_fillSeats 42 = .ok (.iconst 1, 1) := by decide +kernel
theorem dX0_fillSeats_43 : decode cX0_fillSeats 43 = .ok (.iadd, 1) := by decide +kernel
theorem dX0_fillSeats_44 : decode cX0_fillSeats 44 = .ok (.iaload, 1) := by decide +kernel
theorem dX0_fillSeats_45 : decode cX0_fillSeats 45 = .ok (.invokevirtual 143, 3) := by decide +kernel
theorem dX0_fillSeats_48 : decode cX0_fillSeats 48 = .ok (.istore_n 3, 1) := by decide +kernel
theorem dX0_fillSeats_49 : decode cX0_fillSeats 49 = .ok (.aload_n 0, 1) := by decide +kernel
theorem dX0_fillSeats_50 : decode cX0_fillSeats 50 = .ok (.iload_n 3, 1) := by decide +kernel
theorem dX0_fillSeats_51 : decode cX0_fillSeats 51 = .ok (.invokevirtual 67, 3) := by decide +kernel
theorem dX0_fillSeats_54 : decode cX0_fillSeats 54 = .ok (.ifCond .eq 9, 3) := by decide +kernel
theorem dX0_fillSeats_57 : decode cX0_fillSeats 57 = .ok (.aload_n 0, 1) := by decide +kernel
theorem dX0_fillSeats_58 : decode cX0_fillSeats 58 = .ok (.iload_n 3, 1) := by decide +kernel
theorem dX0_fillSeats_59 : decode cX0_fillSeats 59 = .ok (.iload_n 1, 1) := by decide +kernel
theorem dX0_fillSeats_60 : decode cX0_fillSeats 60 = .ok (.invokevirtual 80, 3) := by decide +kernel
theorem dX0_fillSeats_63 : decode cX0_fillSeats 63 = .ok (.iinc 2 (-1), 3) := by decide +kernel
theorem dX0_fillSeats_66 : decode cX0_fillSeats 66 = .ok (.goto (-45), 3) := by decide +kernel
theorem dX0_fillSeats_69 : decode cX0_fillSeats 69 = .ok (.iinc 1 1, 3) := by decide +kernel
theorem dX0_fillSeats_72 : decode cX0_fillSeats 72 = .ok (.goto (-70), 3) := by decide +kernel
theorem dX0_fillSeats_75 : decode cX0_fillSeats 75 = .ok (.return_, 1) := by decide +kernel
theorem dX0_pay_0 : decode cX0_pay 0 = .ok (.iconst 0, 1) := by decide +kernel
theorem dX0_pay_1 : decode cX0_pay 1 = .ok (.istore_n 1, 1) := by decide +kernel
theorem dX0_pay_2 : decode cX0_pay 2 = .ok (.iload_n 1, 1) := by decide +kernel
theorem dX0_pay_3 : decode cX0_pay 3 = .ok (.aload_n 0, 1) := by decide +kernel
theorem dX0_pay_4 : decode cX0_pay 4 = .ok (.getfield 58, 3) := by decide +kernel
theorem dX0_pay_7 : decode cX0_pay 7 = .ok (.if_icmp .ge 47, 3) := by decide +kernel
theorem dX0_pay_10 : decode cX0_pay 10 = .ok (.aload_n 0, 1) := by decide +kernel
theorem dX0_pay_11 : decode cX0_pay 11 = .ok (.getfield 15, 3) := by decide +kernel
theorem dX0_pay_14 : decode cX0_pay 14 = .ok (.iload_n 1, 1) := by decide +kernel
theorem dX0_pay_15 : decode cX0_pay 15 = .ok (.iaload, 1) := by decide +kernel
theorem dX0_pay_16 : decode cX0_pay 16 = .ok (.iconst (-1), 1) := by decide +kernel
theorem dX0_pay_17 : decode cX0_pay 17 = .ok (.if_icmp .eq 31, 3) := by decide +kernel
theorem dX0_pay_20 : decode cX0_pay 20 = .ok (.aload_n 0, 1) := by decide +kernel
theorem dX0_pay_21 : decode cX0_pay 21 = .ok (.getfield 24, 3) := by decide +kernel
theorem dX0_pay_24 : decode cX0_pay 24 = .ok (.iload_n 1, 1) := by decide +kernel
theorem dX0_pay_25 : decode cX0_pay 25 = .ok (.sipush 9999, 3) := by decide +kernel
theorem dX0_pay_28 : decode cX0_pay 28 = .ok (.aload_n 0, 1) := by decide +kernel
theorem dX0_pay_29 : decode cX0_pay 29 = .ok (.getfield 24, 3) := by decide +kernel
theorem dX0_pay_32 : decode cX0_pay 32 = .ok (.iload_n 1, 1) := by decide +kernel
theorem dX0_pay_33 : decode cX0_pay 33 = .ok (.iaload, 1) := by decide +kernel
theorem dX0_pay_34 : decode cX0_pay 34 = .ok (.bipush 8, 2) := by decide +kernel
theorem dX0_pay_36 : decode cX0_pay 36 = .ok (.iadd, 1) := by decide +kernel
theorem dX0_pay_37 : decode cX0_pay 37 = .ok (.aload_n 0, 1) := by decide +kernel
theorem dX0_pay_38 : decode cX0_pay 38 = .ok (.getfield 15, 3) := by decide +kernel
theorem dX0_pay_41 : decode cX0_pay 41 = .ok (.iload_n 1, 1) := by decide +kernel
theorem dX0_pay_42 : decode cX0_pay 42 = .ok (.iaload, 1) := by decide +kernel
theorem dX0_pay_43 : decode cX0_pay 43 = .ok (.isub, 1) := by decide +kernel
theorem dX0_pay_44 : decode cX0_pay 44 = .ok (.invokestatic 146, 3) := by decide +kernel
theorem dX0_pay_47 : decode cX0_pay 47 = .ok (.iastore, 1) := by decide +kernel
theorem dX0_pay_48 : decode cX0_pay 48 = .ok (.iinc 1 1, 3) := by decide +kernel
theorem dX0_pay_51 : decode cX0_pay 51 = .ok (.goto (-49), 3) := by decide +kernel
theorem dX0_pay_54 : decode cX0_pay 54 = .ok (.return_, 1) := by decide +kernel
theorem dX0_growOlder_0 : decode cX0_growOlder 0 = .ok (.iconst 0, 1) := by decide +kernel
theorem dX0_growOlder_1 : decode cX0_growOlder 1 = .ok (.istore_n 1, 1) := by decide +kernel
theorem dX0_growOlder_2 : decode cX0_growOlder 2 = .ok (.iload_n 1, 1) := by decide +kernel
theorem dX0_growOlder_3 : decode cX0_growOlder 3 = .ok (.aload_n 0, 1) := by decide +kernel
theorem dX0_growOlder_4 : decode cX0_growOlder 4 = .ok (.getfield 58, 3) := by decide +kernel
theorem dX0_growOlder_7 : decode cX0_growOlder 7 = .ok (.if_icmp .ge 28, 3) := by decide +kernel
theorem dX0_growOlder_10 : decode cX0_growOlder 10 = .ok (.aload_n 0, 1) := by decide +kernel
theorem dX0_growOlder_11 : decode cX0_growOlder 11 = .ok (.getfield 18, 3) := by decide +kernel
theorem dX0_growOlder_14 : decode cX0_growOlder 14 = .ok (.iload_n 1, 1) := by decide +kernel
theorem dX0_growOlder_15 : decode cX0_growOlder 15 = .ok (.bipush 99, 2) := by decide +kernel
theorem dX0_growOlder_17 : decode cX0_growOlder 17 = .ok (.aload_n 0, 1) := by decide +kernel
theorem dX0_growOlder_18 : decode cX0_growOlder 18 = .ok (.getfield 18, 3) := by decide +kernel
theorem dX0_growOlder_21 : decode cX0_growOlder 21 = .ok (.iload_n 1, 1) := by decide +kernel
theorem dX0_growOlder_22 : decode cX0_growOlder 22 = .ok (.iaload, 1) := by decide +kernel
theorem dX0_growOlder_23 : decode cX0_growOlder 23 = .ok (.iconst 1, 1) := by decide +kernel
theorem dX0_growOlder_24 : decode cX0_growOlder 24 = .ok (.iadd, 1) := by decide +kernel
theorem dX0_growOlder_25 : decode cX0_growOlder 25 = .ok (.invokestatic 146, 3) := by decide +kernel
theorem dX0_growOlder_28 : decode cX0_growOlder 28 = .ok (.iastore, 1) := by decide +kernel
theorem dX0_growOlder_29 : decode cX0_growOlder 29 = .ok (.iinc 1 1, 3) := by decide +kernel
theorem dX0_growOlder_32 : decode cX0_growOlder 32 = .ok (.goto (-30), 3) := by decide +kernel
theorem dX0_growOlder_35 : decode cX0_growOlder 35 = .ok (.return_, 1) := by decide +kernel
theorem dX0_drawPerson_0 : decode cX0_drawPerson 0 = .ok (.aload_n 0, 1) := by decide +kernel
theorem dX0_drawPerson_1 : decode cX0_drawPerson 1 = .ok (.aload_n 0, 1) := by decide +kernel
theorem dX0_drawPerson_2 : decode cX0_drawPerson 2 = .ok (.getfield 45, 3) := by decide +kernel
theorem dX0_drawPerson_5 : decode cX0_drawPerson 5 = .ok (.ldc 151, 2) := by decide +kernel
theorem dX0_drawPerson_7 : decode cX0_drawPerson 7 = .ok (.imul, 1) := by decide +kernel
theorem dX0_drawPerson_8 : decode cX0_drawPerson 8 = .ok (.sipush 12345, 3) := by decide +kernel
theorem dX0_drawPerson_11 : decode cX0_drawPerson 11 = .ok (.iadd, 1) := by decide +kernel
theorem dX0_drawPerson_12 : decode cX0_drawPerson 12 = .ok (.putfield 45, 3) := by decide +kernel
theorem dX0_drawPerson_15 : decode cX0_drawPerson 15 = .ok (.aload_n 0, 1) := by decide +kernel
theorem dX0_drawPerson_16 : decode cX0_drawPerson 16 = .ok (.getfield 58, 3) := by decide +kernel
theorem dX0_drawPerson_19 : decode cX0_drawPerson 19 = .ok (.ifCond .le 18, 3) := by decide +kernel
theorem dX0_drawPerson_22 : decode cX0_drawPerson 22 = .ok (.aload_n 0, 1) := by decide +kernel
theorem dX0_drawPerson_23 : decode cX0_drawPerson 23 = .ok (.getfield 45, 3) := by decide +kernel
theorem dX0_drawPerson_26 : decode cX0_drawPerson 26 = .ok (.bipush 8, 2) := by decide +kernel
theorem dX0_drawPerson_28 : decode cX0_drawPerson 28 = .ok (.iushr, 1) := by decide +kernel
theorem dX0_drawPerson_29 : decode cX0_drawPerson 29 = .ok (.aload_n 0, 1) := by decide +kernel
theorem dX0_drawPerson_30 : decode cX0_drawPerson 30 = .ok (.getfield 58, 3) := by decide +kernel
theorem dX0_drawPerson_33 : decode cX0_drawPerson 33 = .ok (.irem, 1) := by decide +kernel
theorem dX0_drawPerson_34 : decode cX0_drawPerson 34 = .ok (.goto 4, 3) := by decide +kernel
theorem dX0_drawPerson_37 : decode cX0_drawPerson 37 = .ok (.iconst (-1), 1) := by decide +kernel
theorem dX0_drawPerson_38 : decode cX0_drawPerson 38 = .ok (.ireturn, 1) := by decide +kernel
theorem dX1_init_0 : decode cX1_init 0 = .ok (.aload_n 0, 1) := by decide +kernel
theorem dX1_init_1 : decode cX1_init 1 = .ok (.invokespecial 3, 3) := by decide +kernel
theorem dX1_init_4 : decode cX1_init 4 = .ok (.aload_n 0, 1) := by decide +kernel
theorem dX1_init_5 : decode cX1_init 5 = .ok (.bipush 40, 2) := by decide +kernel
theorem dX1_init_7 : decode cX1_init 7 = .ok (.newarray .int, 2) := by decide +kernel
theorem dX1_init_9 : decode cX1_init 9 = .ok (.putfield 9, 3) := by decide +kernel
theorem dX1_init_12 : decode cX1_init 12 = .ok (.return_, 1) := by decide +kernel
theorem dX1_isMissing_0 : decode cX1_isMissing 0 = .ok (.aload_n 0, 1) := by decide +kernel
theorem dX1_isMissing_1 : decode cX1_isMissing 1 = .ok (.getfield 15, 3) := by decide +kernel
theorem dX1_isMissing_4 : decode cX1_isMissing 4 = .ok (.ifCond .ne 7, 3) := by decide +kernel
theorem dX1_isMissing_7 : decode cX1_isMissing 7 = .ok (.iconst 1, 1) := by decide +kernel
theorem dX1_isMissing_8 : decode cX1_isMissing 8 = .ok (.goto 4, 3) := by decide +kernel
theorem dX1_isMissing_11 : decode cX1_isMissing 11 = .ok (.iconst 0, 1) := by decide +kernel
theorem dX1_isMissing_12 : decode cX1_isMissing 12 = .ok (.ireturn, 1) := by decide +kernel
theorem dX1_begin_0 : decode cX1_begin 0 = .ok (.aload_n 0, 1) := by decide +kernel
theorem dX1_begin_1 : decode cX1_begin 1 = .ok (.iload_n 1, 1) := by decide +kernel
theorem dX1_begin_2 : decode cX1_begin 2 = .ok (.putfield 15, 3) := by decide +kernel
theorem dX1_begin_5 : decode cX1_begin 5 = .ok (.aload_n 0, 1) := by decide +kernel
theorem dX1_begin_6 : decode cX1_begin 6 = .ok (.iload_n 1, 1) := by decide +kernel
theorem dX1_begin_7 : decode cX1_begin 7 = .ok (.ifCond .ne 7, 3) := by decide +kernel
theorem dX1_begin_10 : decode cX1_begin 10 = .ok (.iconst 0, 1) := by decide +kernel
theorem dX1_begin_11 : decode cX1_begin 11 = .ok (.goto 4, 3) := by decide +kernel
theorem dX1_begin_14 : decode cX1_begin 14 = .ok (.iload_n 2, 1) := by decide +kernel
theorem dX1_begin_15 : decode cX1_begin 15 = .ok (.putfield 19, 3) := by decide +kernel
theorem dX1_begin_18 : decode cX1_begin 18 = .ok (.iconst 0, 1) := by decide +kernel
theorem dX1_begin_19 : decode cX1_begin 19 = .ok (.istore_n 3, 1) := by decide +kernel
theorem dX1_begin_20 : decode cX1_begin 20 = .ok (.iload_n 3, 1) := by decide +kernel
theorem dX1_begin_21 : decode cX1_begin 21 = .ok (.bipush 40, 2) := by decide +kernel
theorem dX1_begin_23 : decode cX1_begin 23 = .ok (.if_icmp .ge 16, 3) := by decide +kernel
theorem dX1_begin_26 : decode cX1_begin 26 = .ok (.aload_n 0, 1) := by decide +kernel
theorem dX1_begin_27 : decode cX1_begin 27 = .ok (.getfield 9, 3) := by decide +kernel
theorem dX1_begin_30 : decode cX1_begin 30 = .ok (.iload_n 3, 1) := by decide +kernel
theorem dX1_begin_31 : decode cX1_begin 31 = .ok (.iconst 0, 1) := by decide +kernel
theorem dX1_begin_32 : decode cX1_begin 32 = .ok (.iastore, 1) := by decide +kernel
theorem dX1_begin_33 : decode cX1_begin 33 = .ok (.iinc 3 1, 3) := by decide +kernel
theorem dX1_begin_36 : decode cX1_begin 36 = .ok (.goto (-16), 3) := by decide +kernel
theorem dX1_begin_39 : decode cX1_begin 39 = .ok (.return_, 1) := by decide +kernel
theorem dX1_cut_0 : decode cX1_cut 0 = .ok (.aload_n 0, 1) := by decide +kernel
theorem dX1_cut_1 : decode cX1_cut 1 = .ok (.getfield 15, 3) := by decide +kernel
theorem dX1_cut_4 : decode cX1_cut 4 = .ok (.bipush 8, 2) := by decide +kernel
theorem dX1_cut_6 : decode cX1_cut 6 = .ok (.if_icmp .ne 6, 3) := by decide +kernel
theorem dX1_cut_9 : decode cX1_cut 9 = .ok (.iload_n 1, 1) := by decide +kernel
theorem dX1_cut_10 : decode cX1_cut 10 = .ok (.i2b, 1) := by decide +kernel
theorem dX1_cut_11 : decode cX1_cut 11 = .ok (.ireturn, 1) := by decide +kernel
theorem dX1_cut_12 : decode cX1_cut 12 = .ok (.aload_n 0, 1) := by decide +kernel
theorem dX1_cut_13 : decode cX1_cut 13 = .ok (.getfield 15, 3) := by decide +kernel
theorem dX1_cut_16 : decode cX1_cut 16 = .ok (.bipush 16, 2) := by decide +kernel
theorem dX1_cut_18 : decode cX1_cut 18 = .ok (.if_icmp .ne 8, 3) := by decide +kernel
theorem dX1_cut_21 : decode cX1_cut 21 = .ok (.iload_n 1, 1) := by decide +kernel
theorem dX1_cut_22 : decode cX1_cut 22 = .ok (.i2s, 1) := by decide +kernel
theorem dX1_cut_23 : decode cX1_cut 23 = .ok (.goto 4, 3) := by decide +kernel
theorem dX1_cut_26 : decode cX1_cut 26 = .ok (.iload_n 1, 1) := by decide +kernel
theorem dX1_cut_27 : decode cX1_cut 27 = .ok (.ireturn, 1) := by decide +kernel
theorem dX1_hasRow_0 : decode cX1_hasRow 0 = .ok (.iload_n 1, 1) := by decide +kernel
theorem dX1_hasRow_1 : decode cX1_hasRow 1 = .ok (.ifCond .lt 29, 3) := by decide +kernel
theorem dX1_hasRow_4 : decode cX1_hasRow 4 = .ok (.iload_n 2, 1) := by decide +kernel
theorem dX1_hasRow_5 : decode cX1_hasRow 5 = .ok (.ifCond .lt 25, 3) := by decide +kernel
theorem dX1_hasRow_8 : decode cX1_hasRow 8 = .ok (.iload_n 1, 1) := by decide +kernel
theorem dX1_hasRow_9 : decode cX1_hasRow 9 = .ok (.aload_n 0, 1) := by decide +kernel
theorem dX1_hasRow_10 : decode cX1_hasRow 10 = .ok (.getfield 19, 3) := by decide +kernel
theorem dX1_hasRow_13 : decode cX1_hasRow 13 = .ok (.if_icmp .gt 17, 3) := by decide +kernel
theorem dX1_hasRow_16 : decode cX1_hasRow 16 = .ok (.iload_n 2, 1) := by decide +kernel
theorem dX1_hasRow_17 : decode cX1_hasRow 17 = .ok (.aload_n 0, 1) := by decide +kernel
theorem dX1_hasRow_18 : decode cX1_hasRow 18 = .ok (.getfield 19, 3) := by decide +kernel
theorem dX1_hasRow_21 : decode cX1_hasRow 21 = .ok (.iload_n 1, 1) := by decide +kernel
theorem dX1_hasRow_22 : decode cX1_hasRow 22 = .ok (.isub, 1) := by decide +kernel
theorem dX1_hasRow_23 : decode cX1_hasRow 23 = .ok (.if_icmp .gt 7, 3) := by decide +kernel
theorem dX1_hasRow_26 : decode cX1_hasRow 26 = .ok (.iconst 1, 1) := by decide +kernel
theorem dX1_hasRow_27 : decode cX1_hasRow 27 = .ok (.goto 4, 3) := by decide +kernel
theorem dX1_hasRow_30 : decode cX1_hasRow 30 = .ok (.iconst 0, 1) := by decide +kernel
theorem dX1_hasRow_31 : decode cX1_hasRow 31 = .ok (.ireturn, 1) := by decide +kernel
theorem dX2_init_0 : decode cX2_init 0 = .ok (.aload_n 0, 1) := by decide +kernel
theorem dX2_init_1 : decode cX2_init 1 = .ok (.invokespecial 3, 3) := by decide +kernel
theorem dX2_init_4 : decode cX2_init 4 = .ok (.aload_n 0, 1) := by decide +kernel
theorem dX2_init_5 : decode cX2_init 5 = .ok (.bipush 120, 2) := by decide +kernel
theorem dX2_init_7 : decode cX2_init 7 = .ok (.newarray .int, 2) := by decide +kernel
theorem dX2_init_9 : decode cX2_init 9 = .ok (.putfield 9, 3) := by decide +kernel
theorem dX2_init_12 : decode cX2_init 12 = .ok (.return_, 1) := by decide +kernel
theorem dX2_tell_0 : decode cX2_tell 0 = .ok (.aload_n 0, 1) := by decide +kernel
theorem dX2_tell_1 : decode cX2_tell 1 = .ok (.iconst 0, 1) := by decide +kernel
theorem dX2_tell_2 : decode cX2_tell 2 = .ok (.putfield 15, 3) := by decide +kernel
theorem dX2_tell_5 : decode cX2_tell 5 = .ok (.aload_n 0, 1) := by decide +kernel
theorem dX2_tell_6 : decode cX2_tell 6 = .ok (.invokevirtual 19, 3) := by decide +kernel
theorem dX2_tell_9 : decode cX2_tell 9 = .ok (.iconst 1, 1) := by decide +kernel
theorem dX2_tell_10 : decode cX2_tell 10 = .ok (.istore_n 2, 1) := by decide +kernel
theorem dX2_tell_11 : decode cX2_tell 11 = .ok (.iload_n 2, 1) := by decide +kernel
theorem dX2_tell_12 : decode cX2_tell 12 = .ok (.bipush 120, 2) := by decide +kernel
theorem dX2_tell_14 : decode cX2_tell 14 = .ok (.if_icmp .gt 44, 3) := by decide +kernel
theorem dX2_tell_17 : decode cX2_tell 17 = .ok (.aload_n 0, 1) := by decide +kernel
theorem dX2_tell_18 : decode cX2_tell 18 = .ok (.aload_n 1, 1) := by decide +kernel
theorem dX2_tell_19 : decode cX2_tell 19 = .ok (.invokevirtual 22, 3) := by decide +kernel
theorem dX2_tell_22 : decode cX2_tell 22 = .ok (.ifCond .ne 6, 3) := by decide +kernel
theorem dX2_tell_25 : decode cX2_tell 25 = .ok (.goto 33, 3) := by decide +kernel
theorem dX2_tell_28 : decode cX2_tell 28 = .ok (.aload_n 0, 1) := by decide +kernel
theorem dX2_tell_29 : decode cX2_tell 29 = .ok (.getfield 26, 3) := by decide +kernel
theorem dX2_tell_32 : decode cX2_tell 32 = .ok (.ifCond .ne 5, 3) := by decide +kernel
theorem dX2_tell_35 : decode cX2_tell 35 = .ok (.iload_n 2, 1) := by decide +kernel
theorem dX2_tell_36 : decode cX2_tell 36 = .ok (.ireturn, 1) := by decide +kernel
theorem dX2_tell_37 : decode cX2_tell 37 = .ok (.aload_n 0, 1) := by decide +kernel
theorem dX2_tell_38 : decode cX2_tell 38 = .ok (.getfield 26, 3) := by decide +kernel
theorem dX2_tell_41 : decode cX2_tell 41 = .ok (.iconst 3, 1) := by decide +kernel
theorem dX2_tell_42 : decode cX2_tell 42 = .ok (.if_icmp .eq 6, 3) := by decide +kernel
theorem dX2_tell_45 : decode cX2_tell 45 = .ok (.goto 13, 3) := by decide +kernel
theorem dX2_tell_48 : decode cX2_tell 48 = .ok (.aload_n 0, 1) := by decide +kernel
theorem dX2_tell_49 : decode cX2_tell 49 = .ok (.invokevirtual 19, 3) := by decide +kernel
theorem dX2_tell_52 : decode cX2_tell 52 = .ok (.iinc 2 1, 3) := by decide +kernel
theorem dX2_tell_55 : decode cX2_tell 55 = .ok (.goto (-44), 3) := by decide +kernel
theorem dX2_tell_58 : decode cX2_tell 58 = .ok (.iconst (-1), 1) := by decide +kernel
theorem dX2_tell_59 : decode cX2_tell 59 = .ok (.aload_n 0, 1) := by decide +kernel
theorem dX2_tell_60 : decode cX2_tell 60 = .ok (.getfield 29, 3) := by decide +kernel
theorem dX2_tell_63 : decode cX2_tell 63 = .ok (.isub, 1) := by decide +kernel
theorem dX2_tell_64 : decode cX2_tell 64 = .ok (.ireturn, 1) := by decide +kernel
theorem dX2_tellItem_0 : decode cX2_tellItem 0 = .ok (.aload_n 0, 1) := by decide +kernel
theorem dX2_tellItem_1 : decode cX2_tellItem 1 = .ok (.ldc 32, 2) := by decide +kernel
theorem dX2_tellItem_3 : decode cX2_tellItem 3 = .ok (.invokevirtual 34, 3) := by decide +kernel
theorem dX2_tellItem_6 : decode cX2_tellItem 6 = .ok (.ifCond .eq 9, 3) := by decide +kernel
theorem dX2_tellItem_9 : decode cX2_tellItem 9 = .ok (.aload_n 0, 1) := by decide +kernel
theorem dX2_tellItem_10 : decode cX2_tellItem 10 = .ok (.aload_n 1, 1) := by decide +kernel
theorem dX2_tellItem_11 : decode cX2_tellItem 11 = .ok (.invokevirtual 38, 3) := by decide +kernel
theorem dX2_tellItem_14 : decode cX2_tellItem 14 = .ok (.ireturn, 1) := by decide +kernel
theorem dX2_tellItem_15 : decode cX2_tellItem 15 = .ok (.aload_n 0, 1) := by decide +kernel
theorem dX2_tellItem_16 : decode cX2_tellItem 16 = .ok (.invokevirtual 41, 3) := by decide +kernel
theorem dX2_tellItem_19 : decode cX2_tellItem 19 = .ok (.istore_n 2, 1) := by decide +kernel
theorem dX2_tellItem_20 : decode cX2_tellItem 20 = .ok (.iload_n 2, 1) := by decide +kernel
theorem dX2_tellItem_21 : decode cX2_tellItem 21 = .ok (.iconst 0, 1) := by decide +kernel
theorem dX2_tellItem_22 : decode cX2_tellItem 22 = .ok (.iconst 2, 1) := by decide +kernel
theorem dX2_tellItem_23 : decode cX2_tellItem 23 = .ok (.invokestatic 45, 3) := by decide +kernel
theorem dX2_tellItem_26 : decode cX2_tellItem 26 = .ok (.ifCond .eq 23, 3) := by decide +kernel
theorem dX2_tellItem_29 : decode cX2_tellItem 29 = .ok (.aload_n 0, 1) := by decide +kernel
theorem dX2_tellItem_30 : decode cX2_tellItem 30 = .ok (.aload_n 1, 1) := by decide +kernel
theorem dX2_tellItem_31 : decode cX2_tellItem 31 = .ok (.getfield 49, 3) := by decide +kernel
theorem dX2_tellItem_34 : decode cX2_tellItem 34 = .ok (.iload_n 2, 1) := by decide +kernel
theorem dX2_tellItem_35 : decode cX2_tellItem 35 = .ok (.getstatic 54, 3) := by decide +kernel
theorem dX2_tellItem_38 : decode cX2_tellItem 38 = .ok (.iload_n 2, 1) := by decide +kernel
theorem dX2_tellItem_39 : decode cX2_tellItem 39 = .ok (.iaload, 1) := by decide +kernel
theorem dX2_tellItem_40 : decode cX2_tellItem 40 = .ok (.getstatic 57, 3) := by decide +kernel
theorem dX2_tellItem_43 : decode cX2_tellItem 43 = .ok (.iload_n 2, 1) := by decide +kernel
theorem dX2_tellItem_44 : decode cX2_tellItem 44 = .ok (.iaload, 1) := by decide +kernel
theorem dX2_tellItem_45 : decode cX2_tellItem 45 = .ok (.invokevirtual 60, 3) := by decide +kernel
theorem dX2_tellItem_48 : decode cX2_tellItem 48 = .ok (.ireturn, 1) := by decide +kernel
theorem dX2_tellItem_49 : decode cX2_tellItem 49 = .ok (.aload_n 0, 1) := by decide +kernel
theorem dX2_tellItem_50 : decode cX2_tellItem 50 = .ok (.invokevirtual 64, 3) := by decide +kernel
theorem dX2_tellItem_53 : decode cX2_tellItem 53 = .ok (.istore_n 3, 1) := by decide +kernel
theorem dX2_tellItem_54 : decode cX2_tellItem 54 = .ok (.iload_n 3, 1) := by decide +kernel
theorem dX2_tellItem_55 : decode cX2_tellItem 55 = .ok (.invokestatic 67, 3) := by decide +kernel
theorem dX2_tellItem_58 : decode cX2_tellItem 58 = .ok (.ifCond .eq 25, 3) := by decide +kernel
theorem dX2_tellItem_61 : decode cX2_tellItem 61 = .ok (.aload_n 1, 1) := by decide +kernel
theorem dX2_tellItem_62 : decode cX2_tellItem 62 = .ok (.getfield 71, 3) := by decide +kernel
theorem dX2_tellItem_65 : decode cX2_tellItem 65 = .ok (.bipush 12, 2) := by decide +kernel
theorem dX2_tellItem_67 : decode cX2_tellItem 67 = .ok (.if_icmp .ge 16, 3) := by decide +kernel
theorem dX2_tellItem_70 : decode cX2_tellItem 70 = .ok (.aload_n 0, 1) := by decide +kernel
theorem dX2_tellItem_71 : decode cX2_tellItem 71 = .ok (.aload_n 1, 1) := by decide +kernel
theorem dX2_tellItem_72 : decode cX2_tellItem 72 = .ok (.iload_n 3, 1) := by decide +kernel
theorem dX2_tellItem_73 : decode cX2_tellItem 73 = .ok (.invokevirtual 74, 3) := by decide +kernel
theorem dX2_tellItem_76 : decode cX2_tellItem 76 = .ok (.ifCond .eq 7, 3) := by decide +kernel
theorem dX2_tellItem_79 : decode cX2_tellItem 79 = .ok (.iconst 1, 1) := by decide +kernel
theorem dX2_tellItem_80 : decode cX2_tellItem 80 = .ok (.goto 4, 3) := by decide +kernel
theorem dX2_tellItem_83 : decode cX2_tellItem 83 = .ok (.iconst 0, 1) := by decide +kernel
theorem dX2_tellItem_84 : decode cX2_tellItem 84 = .ok (.ireturn, 1) := by decide +kernel
theorem dX2_tellRank_0 : decode cX2_tellRank 0 = .ok (.aload_n 0, 1) := by decide +kernel
theorem dX2_tellRank_1 : decode cX2_tellRank 1 = .ok (.invokevirtual 19, 3) := by decide +kernel
theorem dX2_tellRank_4 : decode cX2_tellRank 4 = .ok (.aload_n 0, 1) := by decide +kernel
theorem dX2_tellRank_5 : decode cX2_tellRank 5 = .ok (.iconst 0, 1) := by decide +kernel
theorem dX2_tellRank_6 : decode cX2_tellRank 6 = .ok (.bipush 7, 2) := by decide +kernel
theorem dX2_tellRank_8 : decode cX2_tellRank 8 = .ok (.invokevirtual 78, 3) := by decide +kernel
theorem dX2_tellRank_11 : decode cX2_tellRank 11 = .ok (.ifCond .ne 5, 3) := by decide +kernel
theorem dX2_tellRank_14 : decode cX2_tellRank 14 = .ok (.iconst 0, 1) := by decide +kernel
theorem dX2_tellRank_15 : decode cX2_tellRank 15 = .ok (.ireturn, 1) := by decide +kernel
theorem dX2_tellRank_16 : decode cX2_tellRank 16 = .ok (.aload_n 0, 1) := by decide +kernel
theorem dX2_tellRank_17 : decode cX2_tellRank 17 = .ok (.getfield 82, 3) := by decide +kernel
theorem dX2_tellRank_20 : decode cX2_tellRank 20 = .ok (.istore_n 2, 1) := by decide +kernel
theorem dX2_tellRank_21 : decode cX2_tellRank 21 = .ok (.aload_n 0, 1) := by decide +kernel
theorem dX2_tellRank_22 : decode cX2_tellRank 22 = .ok (.invokevirtual 19, 3) := by decide +kernel
theorem dX2_tellRank_25 : decode cX2_tellRank 25 = .ok (.aload_n 0, 1) := by decide +kernel
theorem dX2_tellRank_26 : decode cX2_tellRank 26 = .ok (.ldc 85, 2) := by decide +kernel
theorem dX2_tellRank_28 : decode cX2_tellRank 28 = .ok (.invokevirtual 34, 3) := by decide +kernel
theorem dX2_tellRank_31 : decode cX2_tellRank 31 = .ok (.ifCond .eq 25, 3) := by decide +kernel
theorem dX2_tellRank_34 : decode cX2_tellRank 34 = .ok (.aload_n 0, 1) := by decide +kernel
theorem dX2_tellRank_35 : decode cX2_tellRank 35 = .ok (.aload_n 1, 1) := by decide +kernel
theorem dX2_tellRank_36 : decode cX2_tellRank 36 = .ok (.getfield 87, 3) := by decide +kernel
theorem dX2_tellRank_39 : decode cX2_tellRank 39 = .ok (.iload_n 2, 1) := by decide +kernel
theorem dX2_tellRank_40 : decode cX2_tellRank 40 = .ok (.aload_n 1, 1) := by decide +kernel
theorem dX2_tellRank_41 : decode cX2_tellRank 41 = .ok (.iload_n 2, 1) := by decide +kernel
theorem dX2_tellRank_42 : decode cX2_tellRank 42 = .ok (.invokevirtual 89, 3) := by decide +kernel
theorem dX2_tellRank_45 : decode cX2_tellRank 45 = .ok (.iconst 4, 1) := by decide +kernel
theorem dX2_tellRank_46 : decode cX2_tellRank 46 = .ok (.invokevirtual 60, 3) := by decide +kernel
theorem dX2_tellRank_49 : decode cX2_tellRank 49 = .ok (.ifCond .eq 7, 3) := by decide +kernel
theorem dX2_tellRank_52 : decode cX2_tellRank 52 = .ok (.iconst 1, 1) := by decide +kernel
theorem dX2_tellRank_53 : decode cX2_tellRank 53 = .ok (.goto 4, 3) := by decide +kernel
theorem dX2_tellRank_56 : decode cX2_tellRank 56 = .ok (.iconst 0, 1) := by decide +kernel
theorem dX2_tellRank_57 : decode cX2_tellRank 57 = .ok (.ireturn, 1) := by decide +kernel
theorem dX2_tellPerson_0 : decode cX2_tellPerson 0 = .ok (.aload_n 0, 1) := by decide +kernel
theorem dX2_tellPerson_1 : decode cX2_tellPerson 1 = .ok (.invokevirtual 19, 3) := by decide +kernel
theorem dX2_tellPerson_4 : decode cX2_tellPerson 4 = .ok (.aload_n 0, 1) := by decide +kernel
theorem dX2_tellPerson_5 : decode cX2_tellPerson 5 = .ok (.ldc 93, 2) := by decide +kernel
theorem dX2_tellPerson_7 : decode cX2_tellPerson 7 = .ok (.invokevirtual 34, 3) := by decide +kernel
theorem dX2_tellPerson_10 : decode cX2_tellPerson 10 = .ok (.ifCond .ne 5, 3) := by decide +kernel
theorem dX2_tellPerson_13 : decode cX2_tellPerson 13 = .ok (.iconst 0, 1) := by decide +kernel
theorem dX2_tellPerson_14 : decode cX2_tellPerson 14 = .ok (.ireturn, 1) := by decide +kernel
theorem dX2_tellPerson_15 : decode cX2_tellPerson 15 = .ok (.aload_n 0, 1) := by decide +kernel
theorem dX2_tellPerson_16 : decode cX2_tellPerson 16 = .ok (.invokevirtual 19, 3) := by decide +kernel
theorem dX2_tellPerson_19 : decode cX2_tellPerson 19 = .ok (.aload_n 0, 1) := by decide +kernel
theorem dX2_tellPerson_20 : decode cX2_tellPerson 20 = .ok (.iconst 0, 1) := by decide +kernel
theorem dX2_tellPerson_21 : decode cX2_tellPerson 21 = .ok (.bipush 7, 2) := by decide +kernel
theorem dX2_tellPerson_23 : decode cX2_tellPerson 23 = .ok (.invokevirtual 78, 3) := by decide +kernel
theorem dX2_tellPerson_26 : decode cX2_tellPerson 26 = .ok (.ifCond .eq 14, 3) := by decide +kernel
theorem dX2_tellPerson_29 : decode cX2_tellPerson 29 = .ok (.aload_n 1, 1) := by decide +kernel
theorem dX2_tellPerson_30 : decode cX2_tellPerson 30 = .ok (.aload_n 0, 1) := by decide +kernel
theorem dX2_tellPerson_31 : decode cX2_tellPerson 31 = .ok (.getfield 82, 3) := by decide +kernel
theorem dX2_tellPerson_34 : decode cX2_tellPerson 34 = .ok (.invokevirtual 95, 3) := by decide +kernel
theorem dX2_tellPerson_37 : decode cX2_tellPerson 37 = .ok (.ifCond .ne 5, 3) := by decide +kernel
theorem dX2_tellPerson_40 : decode cX2_tellPerson 40 = .ok (.iconst 0, 1) := by decide +kernel
theorem dX2_tellPerson_41 : decode cX2_tellPerson 41 = .ok (.ireturn, 1) := by decide +kernel
theorem dX2_tellPerson_42 : decode cX2_tellPerson 42 = .ok (.aload_n 1, 1) := by decide +kernel
theorem dX2_tellPerson_43 : decode cX2_tellPerson 43 = .ok (.iload_n 2, 1) := by decide +kernel
theorem dX2_tellPerson_44 : decode cX2_tellPerson 44 = .ok (.aload_n 0, 1) := by decide +kernel
theorem dX2_tellPerson_45 : decode cX2_tellPerson 45 = .ok (.getfield 82, 3) := by decide +kernel
theorem dX2_tellPerson_48 : decode cX2_tellPerson 48 = .ok (.invokevirtual 98, 3) := by decide +kernel
theorem dX2_tellPerson_51 : decode cX2_tellPerson 51 = .ok (.istore_n 3, 1) := by decide +kernel
theorem dX2_tellPerson_52 : decode cX2_tellPerson 52 = .ok (.aload_n 0, 1) := by decide +kernel
theorem dX2_tellPerson_53 : decode cX2_tellPerson 53 = .ok (.invokevirtual 19, 3) := by decide +kernel
theorem dX2_tellPerson_56 : decode cX2_tellPerson 56 = .ok (.aload_n 0, 1) := by decide +kernel
theorem dX2_tellPerson_57 : decode cX2_tellPerson 57 = .ok (.ldc 102, 2) := by decide +kernel
theorem dX2_tellPerson_59 : decode cX2_tellPerson 59 = .ok (.aload_n 1, 1) := by decide +kernel
theorem dX2_tellPerson_60 : decode cX2_tellPerson 60 = .ok (.getfield 104, 3) := by decide +kernel
theorem dX2_tellPerson_63 : decode cX2_tellPerson 63 = .ok (.iload_n 3, 1) := by decide +kernel
theorem dX2_tellPerson_64 : decode cX2_tellPerson 64 = .ok (.bipush 99, 2) := by decide +kernel
theorem dX2_tellPerson_66 : decode cX2_tellPerson 66 = .ok (.invokevirtual 106, 3) := by decide +kernel
theorem dX2_tellPerson_69 : decode cX2_tellPerson 69 = .ok (.ifCond .eq 56, 3) := by decide +kernel
theorem dX2_tellPerson_72 : decode cX2_tellPerson 72 = .ok (.aload_n 0, 1) := by decide +kernel
theorem dX2_tellPerson_73 : decode cX2_tellPerson 73 = .ok (.ldc 110, 2) := by decide +kernel
theorem dX2_tellPerson_75 : decode cX2_tellPerson 75 = .ok (.aload_n 1, 1) := by decide +kernel
theorem dX2_tellPerson_76 : decode cX2_tellPerson 76 = .ok (.getfield 112, 3) := by decide +kernel
theorem dX2_tellPerson_79 : decode cX2_tellPerson 79 = .ok (.iload_n 3, 1) := by decide +kernel
theorem dX2_tellPerson_80 : decode cX2_tellPerson 80 = .ok (.iconst 3, 1) := by decide +kernel
theorem dX2_tellPerson_81 : decode cX2_tellPerson 81 = .ok (.invokevirtual 106, 3) := by decide +kernel
theorem dX2_tellPerson_84 : decode cX2_tellPerson 84 = .ok (.ifCond .eq 41, 3) := by decide +kernel
theorem dX2_tellPerson_87 : decode cX2_tellPerson 87 = .ok (.aload_n 0, 1) := by decide +kernel
theorem dX2_tellPerson_88 : decode cX2_tellPerson 88 = .ok (.ldc 114, 2) := by decide +kernel
theorem dX2_tellPerson_90 : decode cX2_tellPerson 90 = .ok (.aload_n 1, 1) := by decide +kernel
theorem dX2_tellPerson_91 : decode cX2_tellPerson 91 = .ok (.getfield 116, 3) := by decide +kernel
theorem dX2_tellPerson_94 : decode cX2_tellPerson 94 = .ok (.iload_n 3, 1) := by decide +kernel
theorem dX2_tellPerson_95 : decode cX2_tellPerson 95 = .ok (.sipush 9999, 3) := by decide +kernel
theorem dX2_tellPerson_98 : decode cX2_tellPerson 98 = .ok (.invokevirtual 106, 3) := by decide +kernel
theorem dX2_tellPerson_101 : decode cX2_tellPerson 101 = .ok (.ifCond .eq 24, 3) := by decide +kernel
theorem dX2_tellPerson_104 : decode cX2_tellPerson 104 = .ok (.aload_n 0, 1) := by decide +kernel
theorem dX2_tellPerson_105 : decode cX2_tellPerson 105 = .ok (.ldc 118, 2) := by decide +kernel
theorem dX2_tellPerson_107 : decode cX2_tellPerson 107 = .ok (.aload_n 1, 1) := by decide +kernel
theorem dX2_tellPerson_108 : decode cX2_tellPerson 108 = .ok (.getfield 120, 3) := by decide +kernel
theorem dX2_tellPerson_111 : decode cX2_tellPerson 111 = .ok (.iload_n 3, 1) := by decide +kernel
theorem dX2_tellPerson_112 : decode cX2_tellPerson 112 = .ok (.iload_n 3, 1) := by decide +kernel
theorem dX2_tellPerson_113 : decode cX2_tellPerson 113 = .ok (.iconst 1, 1) := by decide +kernel
theorem dX2_tellPerson_114 : decode cX2_tellPerson 114 = .ok (.isub, 1) := by decide +kernel
theorem dX2_tellPerson_115 : decode cX2_tellPerson 115 = .ok (.invokevirtual 106, 3) := by decide +kernel
theorem dX2_tellPerson_118 : decode cX2_tellPerson 118 = .ok (.ifCond .eq 7, 3) := by decide +kernel
theorem dX2_tellPerson_121 : decode cX2_tellPerson 121 = .ok (.iconst 1, 1) := by decide +kernel
theorem dX2_tellPerson_122 : decode cX2_tellPerson 122 = .ok (.goto 4, 3) := by decide +kernel
theorem dX2_tellPerson_125 : decode cX2_tellPerson 125 = .ok (.iconst 0, 1) := by decide +kernel
theorem dX2_tellPerson_126 : decode cX2_tellPerson 126 = .ok (.ireturn, 1) := by decide +kernel
theorem dX2_tellDetail_0 : decode cX2_tellDetail 0 = .ok (.aload_n 0, 1) := by decide +kernel
theorem dX2_tellDetail_1 : decode cX2_tellDetail 1 = .ok (.aload_n 1, 1) := by decide +kernel
theorem dX2_tellDetail_2 : decode cX2_tellDetail 2 = .ok (.invokevirtual 34, 3) := by decide +kernel
theorem dX2_tellDetail_5 : decode cX2_tellDetail 5 = .ok (.ifCond .eq 15, 3) := by decide +kernel
theorem dX2_tellDetail_8 : decode cX2_tellDetail 8 = .ok (.aload_n 0, 1) := by decide +kernel
theorem dX2_tellDetail_9 : decode cX2_tellDetail 9 = .ok (.aload_n 2, 1) := by decide +kernel
theorem dX2_tellDetail_10 : decode cX2_tellDetail 10 = .ok (.iload_n 3, 1) := by decide +kernel
theorem dX2_tellDetail_11 : decode cX2_tellDetail 11 = .ok (.iconst 0, 1) := by decide +kernel
theorem dX2_tellDetail_12 : decode cX2_tellDetail 12 = .ok (.iload 4, 2) := by decide +kernel
theorem dX2_tellDetail_14 : decode cX2_tellDetail 14 = .ok (.invokevirtual 60, 3) := by decide +kernel
theorem dX2_tellDetail_17 : decode cX2_tellDetail 17 = .ok (.ifCond .eq 7, 3) := by decide +kernel
theorem dX2_tellDetail_20 : decode cX2_tellDetail 20 = .ok (.iconst 1, 1) := by decide +kernel
theorem dX2_tellDetail_21 : decode cX2_tellDetail 21 = .ok (.goto 4, 3) := by decide +kernel
theorem dX2_tellDetail_24 : decode cX2_tellDetail 24 = .ok (.iconst 0, 1) := by decide +kernel
theorem dX2_tellDetail_25 : decode cX2_tellDetail 25 = .ok (.ireturn, 1) := by decide +kernel
theorem dX2_tellNumber_0 : decode cX2_tellNumber 0 = .ok (.aload_n 0, 1) := by decide +kernel
theorem dX2_tellNumber_1 : decode cX2_tellNumber 1 = .ok (.invokevirtual 19, 3) := by decide +kernel
theorem dX2_tellNumber_4 : decode cX2_tellNumber 4 = .ok (.aload_n 0, 1) := by decide +kernel
theorem dX2_tellNumber_5 : decode cX2_tellNumber 5 = .ok (.iload_n 3, 1) := by decide +kernel
theorem dX2_tellNumber_6 : decode cX2_tellNumber 6 = .ok (.iload 4, 2) := by decide +kernel
theorem dX2_tellNumber_8 : decode cX2_tellNumber 8 = .ok (.invokevirtual 78, 3) := by decide +kernel
theorem dX2_tellNumber_11 : decode cX2_tellNumber 11 = .ok (.ifCond .ne 5, 3) := by decide +kernel
theorem dX2_tellNumber_14 : decode cX2_tellNumber 14 = .ok (.iconst 0, 1) := by decide +kernel
theorem dX2_tellNumber_15 : decode cX2_tellNumber 15 = .ok (.ireturn, 1) := by decide +kernel
theorem dX2_tellNumber_16 : decode cX2_tellNumber 16 = .ok (.aload_n 1, 1) := by decide +kernel
theorem dX2_tellNumber_17 : decode cX2_tellNumber 17 = .ok (.iload_n 2, 1) := by decide +kernel
theorem dX2_tellNumber_18 : decode cX2_tellNumber 18 = .ok (.aload_n 0, 1) := by decide +kernel
theorem dX2_tellNumber_19 : decode cX2_tellNumber 19 = .ok (.getfield 82, 3) := by decide +kernel
theorem dX2_tellNumber_22 : decode cX2_tellNumber 22 = .ok (.iastore, 1) := by decide +kernel
theorem dX2_tellNumber_23 : decode cX2_tellNumber 23 = .ok (.aload_n 0, 1) := by decide +kernel
theorem dX2_tellNumber_24 : decode cX2_tellNumber 24 = .ok (.invokevirtual 19, 3) := by decide +kernel
theorem dX2_tellNumber_27 : decode cX2_tellNumber 27 = .ok (.iconst 1, 1) := by decide +kernel
theorem dX2_tellNumber_28 : decode cX2_tellNumber 28 = .ok (.ireturn, 1) := by decide +kernel
theorem dX2_lawTold_0 : decode cX2_lawTold 0 = .ok (.aload_n 0, 1) := by decide +kernel
theorem dX2_lawTold_1 : decode cX2_lawTold 1 = .ok (.ldc 122, 2) := by decide +kernel
theorem dX2_lawTold_3 : decode cX2_lawTold 3 = .ok (.invokevirtual 34, 3) := by decide +kernel
theorem dX2_lawTold_6 : decode cX2_lawTold 6 = .ok (.ifCond .eq 5, 3) := by decide +kernel
theorem dX2_lawTold_9 : decode cX2_lawTold 9 = .ok (.iconst 0, 1) := by decide +kernel
theorem dX2_lawTold_10 : decode cX2_lawTold 10 = .ok (.ireturn, 1) := by decide +kernel
theorem dX2_lawTold_11 : decode cX2_lawTold 11 = .ok (.aload_n 0, 1) := by decide +kernel
theorem dX2_lawTold_12 : decode cX2_lawTold 12 = .ok (.ldc 124, 2) := by decide +kernel
theorem dX2_lawTold_14 : decode cX2_lawTold 14 = .ok (.invokevirtual 34, 3) := by decide +kernel
theorem dX2_lawTold_17 : decode cX2_lawTold 17 = .ok (.ifCond .eq 5, 3) := by decide +kernel
theorem dX2_lawTold_20 : decode cX2_lawTold 20 = .ok (.iconst 1, 1) := by decide +kernel
theorem dX2_lawTold_21 : decode cX2_lawTold 21 = .ok (.ireturn, 1) := by decide +kernel
theorem dX2_lawTold_22 : decode cX2_lawTold 22 = .ok (.aload_n 0, 1) := by decide +kernel
theorem dX2_lawTold_23 : decode cX2_lawTold 23 = .ok (.ldc 126, 2) := by decide +kernel
theorem dX2_lawTold_25 : decode cX2_lawTold 25 = .ok (.invokevirtual 34, 3) := by decide +kernel
theorem dX2_lawTold_28 : decode cX2_lawTold 28 = .ok (.ifCond .eq 7, 3) := by decide +kernel
theorem dX2_lawTold_31 : decode cX2_lawTold 31 = .ok (.iconst 2, 1) := by decide +kernel
theorem dX2_lawTold_32 : decode cX2_lawTold 32 = .ok (.goto 4, 3) := by decide +kernel
theorem dX2_lawTold_35 : decode cX2_lawTold 35 = .ok (.iconst (-1), 1) := by decide +kernel
theorem dX2_lawTold_36 : decode cX2_lawTold 36 = .ok (.ireturn, 1) := by decide +kernel
theorem dX2_kindTold_0 : decode cX2_kindTold 0 = .ok (.aload_n 0, 1) := by decide +kernel
theorem dX2_kindTold_1 : decode cX2_kindTold 1 = .ok (.ldc 128, 2) := by decide +kernel
theorem dX2_kindTold_3 : decode cX2_kindTold 3 = .ok (.invokevirtual 34, 3) := by decide +kernel
theorem dX2_kindTold_6 : decode cX2_kindTold 6 = .ok (.ifCond .eq 5, 3) := by decide +kernel
theorem dX2_kindTold_9 : decode cX2_kindTold 9 = .ok (.iconst 0, 1) := by decide +kernel
theorem dX2_kindTold_10 : decode cX2_kindTold 10 = .ok (.ireturn, 1) := by decide +kernel
theorem dX2_kindTold_11 : decode cX2_kindTold 11 = .ok (.aload_n 0, 1) := by decide +kernel
theorem dX2_kindTold_12 : decode cX2_kindTold 12 = .ok (.ldc 130, 2) := by decide +kernel
theorem dX2_kindTold_14 : decode cX2_kindTold 14 = .ok (.invokevirtual 34, 3) := by decide +kernel
theorem dX2_kindTold_17 : decode cX2_kindTold 17 = .ok (.ifCond .eq 5, 3) := by decide +kernel
theorem dX2_kindTold_20 : decode cX2_kindTold 20 = .ok (.iconst 1, 1) := by decide +kernel
theorem dX2_kindTold_21 : decode cX2_kindTold 21 = .ok (.ireturn, 1) := by decide +kernel
theorem dX2_kindTold_22 : decode cX2_kindTold 22 = .ok (.aload_n 0, 1) := by decide +kernel
theorem dX2_kindTold_23 : decode cX2_kindTold 23 = .ok (.ldc 132, 2) := by decide +kernel
theorem dX2_kindTold_25 : decode cX2_kindTold 25 = .ok (.invokevirtual 34, 3) := by decide +kernel
theorem dX2_kindTold_28 : decode cX2_kindTold 28 = .ok (.ifCond .eq 5, 3) := by decide +kernel
theorem dX2_kindTold_31 : decode cX2_kindTold 31 = .ok (.iconst 2, 1) := by decide +kernel
theorem dX2_kindTold_32 : decode cX2_kindTold 32 = .ok (.ireturn, 1) := by decide +kernel
theorem dX2_kindTold_33 : decode cX2_kindTold 33 = .ok (.aload_n 0, 1) := by decide +kernel
theorem dX2_kindTold_34 : decode cX2_kindTold 34 = .ok (.ldc 134, 2) := by decide +kernel
theorem dX2_kindTold_36 : decode cX2_kindTold 36 = .ok (.invokevirtual 34, 3) := by decide +kernel
theorem dX2_kindTold_39 : decode cX2_kindTold 39 = .ok (.ifCond .eq 5, 3) := by decide +kernel
theorem dX2_kindTold_42 : decode cX2_kindTold 42 = .ok (.iconst 3, 1) := by decide +kernel
theorem dX2_kindTold_43 : decode cX2_kindTold 43 = .ok (.ireturn, 1) := by decide +kernel
theorem dX2_kindTold_44 : decode cX2_kindTold 44 = .ok (.aload_n 0, 1) := by decide +kernel
theorem dX2_kindTold_45 : decode cX2_kindTold 45 = .ok (.ldc 136, 2) := by decide +kernel
theorem dX2_kindTold_47 : decode cX2_kindTold 47 = .ok (.invokevirtual 34, 3) := by decide +kernel
theorem dX2_kindTold_50 : decode cX2_kindTold 50 = .ok (.ifCond .eq 5, 3) := by decide +kernel
theorem dX2_kindTold_53 : decode cX2_kindTold 53 = .ok (.iconst 4, 1) := by decide +kernel
theorem dX2_kindTold_54 : decode cX2_kindTold 54 = .ok (.ireturn, 1) := by decide +kernel
theorem dX2_kindTold_55 : decode cX2_kindTold 55 = .ok (.aload_n 0, 1) := by decide +kernel
theorem dX2_kindTold_56 : decode cX2_kindTold 56 = .ok (.ldc 138, 2) := by decide +kernel
theorem dX2_kindTold_58 : decode cX2_kindTold 58 = .ok (.invokevirtual 34, 3) := by decide +kernel
theorem dX2_kindTold_61 : decode cX2_kindTold 61 = .ok (.ifCond .eq 5, 3) := by decide +kernel
theorem dX2_kindTold_64 : decode cX2_kindTold 64 = .ok (.iconst 5, 1) := by decide +kernel
theorem dX2_kindTold_65 : decode cX2_kindTold 65 = .ok (.ireturn, 1) := by decide +kernel
theorem dX2_kindTold_66 : decode cX2_kindTold 66 = .ok (.aload_n 0, 1) := by decide +kernel
theorem dX2_kindTold_67 : decode cX2_kindTold 67 = .ok (.ldc 140, 2) := by decide +kernel
theorem dX2_kindTold_69 : decode cX2_kindTold 69 = .ok (.invokevirtual 34, 3) := by decide +kernel
theorem dX2_kindTold_72 : decode cX2_kindTold 72 = .ok (.ifCond .eq 8, 3) := by decide +kernel
theorem dX2_kindTold_75 : decode cX2_kindTold 75 = .ok (.bipush 6, 2) := by decide +kernel
theorem dX2_kindTold_77 : decode cX2_kindTold 77 = .ok (.goto 4, 3) := by decide +kernel
theorem dX2_kindTold_80 : decode cX2_kindTold 80 = .ok (.iconst (-1), 1) := by decide +kernel
theorem dX2_kindTold_81 : decode cX2_kindTold 81 = .ok (.ireturn, 1) := by decide +kernel
theorem dX2_isWord_0 : decode cX2_isWord 0 = .ok (.aload_n 0, 1) := by decide +kernel
theorem dX2_isWord_1 : decode cX2_isWord 1 = .ok (.getfield 26, 3) := by decide +kernel
theorem dX2_isWord_4 : decode cX2_isWord 4 = .ok (.iconst 1, 1) := by decide +kernel
theorem dX2_isWord_5 : decode cX2_isWord 5 = .ok (.if_icmp .ne 19, 3) := by decide +kernel
theorem dX2_isWord_8 : decode cX2_isWord 8 = .ok (.aload_n 0, 1) := by decide +kernel
theorem dX2_isWord_9 : decode cX2_isWord 9 = .ok (.getfield 15, 3) := by decide +kernel
theorem dX2_isWord_12 : decode cX2_isWord 12 = .ok (.aload_n 0, 1) := by decide +kernel
theorem dX2_isWord_13 : decode cX2_isWord 13 = .ok (.getfield 29, 3) := by decide +kernel
theorem dX2_isWord_16 : decode cX2_isWord 16 = .ok (.isub, 1) := by decide +kernel
theorem dX2_isWord_17 : decode cX2_isWord 17 = .ok (.aload_n 1, 1) := by decide +kernel
theorem dX2_isWord_18 : decode cX2_isWord 18 = .ok (.invokevirtual 142, 3) := by decide +kernel
theorem dX2_isWord_21 : decode cX2_isWord 21 = .ok (.if_icmp .eq 5, 3) := by decide +kernel
theorem dX2_isWord_24 : decode cX2_isWord 24 = .ok (.iconst 0, 1) := by decide +kernel
theorem dX2_isWord_25 : decode cX2_isWord 25 = .ok (.ireturn, 1) := by decide +kernel
theorem dX2_isWord_26 : decode cX2_isWord 26 = .ok (.iconst 0, 1) := by decide +kernel
theorem dX2_isWord_27 : decode cX2_isWord 27 = .ok (.istore_n 2, 1) := by decide +kernel
theorem dX2_isWord_28 : decode cX2_isWord 28 = .ok (.iload_n 2, 1) := by decide +kernel
theorem dX2_isWord_29 : decode cX2_isWord 29 = .ok (.aload_n 1, 1) := by decide +kernel
theorem dX2_isWord_30 : decode cX2_isWord 30 = .ok (.invokevirtual 142, 3) := by decide +kernel
theorem dX2_isWord_33 : decode cX2_isWord 33 = .ok (.if_icmp .ge 30, 3) := by decide +kernel
theorem dX2_isWord_36 : decode cX2_isWord 36 = .ok (.aload_n 0, 1) := by decide +kernel
theorem dX2_isWord_37 : decode cX2_isWord 37 = .ok (.getfield 9, 3) := by decide +kernel
theorem dX2_isWord_40 : decode cX2_isWord 40 = .ok (.aload_n 0, 1) := by decide +kernel
theorem dX2_isWord_41 : decode cX2_isWord 41 = .ok (.getfield 29, 3) := by decide +kernel
theorem dX2_isWord_44 : decode cX2_isWord 44 = .ok (.iload_n 2, 1) := by decide +kernel
theorem dX2_isWord_45 : decode cX2_isWord 45 = .ok (.iadd, 1) := by decide +kernel
theorem dX2_isWord_46 : decode cX2_isWord 46 = .ok (.iaload, 1) := by decide +kernel
theorem dX2_isWord_47 : decode cX2_isWord 47 = .ok (.aload_n 1, 1) := by decide +kernel
theorem dX2_isWord_48 : decode cX2_isWord 48 = .ok (.iload_n 2, 1) := by decide +kernel
theorem dX2_isWord_49 : decode cX2_isWord 49 = .ok (.invokevirtual 147, 3) := by decide +kernel
theorem dX2_isWord_52 : decode cX2_isWord 52 = .ok (.if_icmp .eq 5, 3) := by decide +kernel
theorem dX2_isWord_55 : decode cX2_isWord 55 = .ok (.iconst 0, 1) := by decide +kernel
theorem dX2_isWord_56 : decode cX2_isWord 56 = .ok (.ireturn, 1) := by decide +kernel
theorem dX2_isWord_57 : decode cX2_isWord 57 = .ok (.iinc 2 1, 3) := by decide +kernel
theorem dX2_isWord_60 : decode cX2_isWord 60 = .ok (.goto (-32), 3) := by decide +kernel
theorem dX2_isWord_63 : decode cX2_isWord 63 = .ok (.iconst 1, 1) := by decide +kernel
theorem dX2_isWord_64 : decode cX2_isWord 64 = .ok (.ireturn, 1) := by decide +kernel
theorem dX2_isNumber_0 : decode cX2_isNumber 0 = .ok (.aload_n 0, 1) := by decide +kernel
theorem dX2_isNumber_1 : decode cX2_isNumber 1 = .ok (.getfield 26, 3) := by decide +kernel
theorem dX2_isNumber_4 : decode cX2_isNumber 4 = .ok (.iconst 2, 1) := by decide +kernel
theorem dX2_isNumber_5 : decode cX2_isNumber 5 = .ok (.if_icmp .ne 19, 3) := by decide +kernel
theorem dX2_isNumber_8 : decode cX2_isNumber 8 = .ok (.aload_n 0, 1) := by decide +kernel
theorem dX2_isNumber_9 : decode cX2_isNumber 9 = .ok (.getfield 82, 3) := by decide +kernel
theorem dX2_isNumber_12 : decode cX2_isNumber 12 = .ok (.iload_n 1, 1) := by decide +kernel
theorem dX2_isNumber_13 : decode cX2_isNumber 13 = .ok (.iload_n 2, 1) := by decide +kernel
theorem dX2_isNumber_14 : decode cX2_isNumber 14 = .ok (.invokestatic 45, 3) := by decide +kernel
theorem dX2_isNumber_17 : decode cX2_isNumber 17 = .ok (.ifCond .eq 7, 3) := by decide +kernel
theorem dX2_isNumber_20 : decode cX2_isNumber 20 = .ok (.iconst 1, 1) := by decide +kernel
theorem dX2_isNumber_21 : decode cX2_isNumber 21 = .ok (.goto 4, 3) := by decide +kernel
theorem dX2_isNumber_24 : decode cX2_isNumber 24 = .ok (.iconst 0, 1) := by decide +kernel
theorem dX2_isNumber_25 : decode cX2_isNumber 25 = .ok (.ireturn, 1) := by decide +kernel
theorem dX2_next_0 : decode cX2_next 0 = .ok (.aload_n 0, 1) := by decide +kernel
theorem dX2_next_1 : decode cX2_next 1 = .ok (.aload_n 0, 1) := by decide +kernel
theorem dX2_next_2 : decode cX2_next 2 = .ok (.getfield 15, 3) := by decide +kernel
theorem dX2_next_5 : decode cX2_next 5 = .ok (.putfield 29, 3) := by decide +kernel
theorem dX2_next_8 : decode cX2_next 8 = .ok (.aload_n 0, 1) := by decide +kernel
theorem dX2_next_9 : decode cX2_next 9 = .ok (.getfield 29, 3) := by decide +kernel
theorem dX2_next_12 : decode cX2_next 12 = .ok (.aload_n 0, 1) := by decide +kernel
theorem dX2_next_13 : decode cX2_next 13 = .ok (.getfield 151, 3) := by decide +kernel
theorem dX2_next_16 : decode cX2_next 16 = .ok (.if_icmp .ge 30, 3) := by decide +kernel
theorem dX2_next_19 : decode cX2_next 19 = .ok (.aload_n 0, 1) := by decide +kernel
theorem dX2_next_20 : decode cX2_next 20 = .ok (.getfield 9, 3) := by decide +kernel
theorem dX2_next_23 : decode cX2_next 23 = .ok (.aload_n 0, 1) := by decide +kernel
theorem dX2_next_24 : decode cX2_next 24 = .ok (.getfield 29, 3) := by decide +kernel
theorem dX2_next_27 : decode cX2_next 27 = .ok (.iaload, 1) := by decide +kernel
theorem dX2_next_28 : decode cX2_next 28 = .ok (.bipush 32, 2) := by decide +kernel
theorem dX2_next_30 : decode cX2_next 30 = .ok (.if_icmp .ne 16, 3) := by decide +kernel
theorem dX2_next_33 : decode cX2_next 33 = .ok (.aload_n 0, 1) := by decide +kernel
theorem dX2_next_34 : decode cX2_next 34 = .ok (.dup, 1) := by decide +kernel
theorem dX2_next_35 : decode cX2_next 35 = .ok (.getfield 29, 3) := by decide +kernel
theorem dX2_next_38 : decode cX2_next 38 = .ok (.iconst 1, 1) := by decide +kernel
theorem dX2_next_39 : decode cX2_next 39 = .ok (.iadd, 1) := by decide +kernel
theorem dX2_next_40 : decode cX2_next 40 = .ok (.putfield 29, 3) := by decide +kernel
theorem dX2_next_43 : decode cX2_next 43 = .ok (.goto (-35), 3) := by decide +kernel
theorem dX2_next_46 : decode cX2_next 46 = .ok (.aload_n 0, 1) := by decide +kernel
theorem dX2_next_47 : decode cX2_next 47 = .ok (.aload_n 0, 1) := by decide +kernel
theorem dX2_next_48 : decode cX2_next 48 = .ok (.aload_n 0, 1) := by decide +kernel
theorem dX2_next_49 : decode cX2_next 49 = .ok (.getfield 29, 3) := by decide +kernel
theorem dX2_next_52 : decode cX2_next 52 = .ok (.invokevirtual 153, 3) := by decide +kernel
theorem dX2_next_55 : decode cX2_next 55 = .ok (.putfield 26, 3) := by decide +kernel
theorem dX2_next_58 : decode cX2_next 58 = .ok (.aload_n 0, 1) := by decide +kernel
theorem dX2_next_59 : decode cX2_next 59 = .ok (.aload_n 0, 1) := by decide +kernel
theorem dX2_next_60 : decode cX2_next 60 = .ok (.getfield 29, 3) := by decide +kernel
theorem dX2_next_63 : decode cX2_next 63 = .ok (.iconst 1, 1) := by decide +kernel
theorem dX2_next_64 : decode cX2_next 64 = .ok (.iadd, 1) := by decide +kernel
theorem dX2_next_65 : decode cX2_next 65 = .ok (.aload_n 0, 1) := by decide +kernel
theorem dX2_next_66 : decode cX2_next 66 = .ok (.getfield 151, 3) := by decide +kernel
theorem dX2_next_69 : decode cX2_next 69 = .ok (.invokestatic 156, 3) := by decide +kernel
theorem dX2_next_72 : decode cX2_next 72 = .ok (.putfield 15, 3) := by decide +kernel
theorem dX2_next_75 : decode cX2_next 75 = .ok (.aload_n 0, 1) := by decide +kernel
theorem dX2_next_76 : decode cX2_next 76 = .ok (.getfield 26, 3) := by decide +kernel
theorem dX2_next_79 : decode cX2_next 79 = .ok (.iconst 1, 1) := by decide +kernel
theorem dX2_next_80 : decode cX2_next 80 = .ok (.if_icmp .eq 11, 3) := by decide +kernel
theorem dX2_next_83 : decode cX2_next 83 = .ok (.aload_n 0, 1) := by decide +kernel
theorem dX2_next_84 : decode cX2_next 84 = .ok (.getfield 26, 3) := by decide +kernel
theorem dX2_next_87 : decode cX2_next 87 = .ok (.iconst 2, 1) := by decide +kernel
theorem dX2_next_88 : decode cX2_next 88 = .ok (.if_icmp .ne 7, 3) := by decide +kernel
theorem dX2_next_91 : decode cX2_next 91 = .ok (.iconst 1, 1) := by decide +kernel
theorem dX2_next_92 : decode cX2_next 92 = .ok (.goto 4, 3) := by decide +kernel
theorem dX2_next_95 : decode cX2_next 95 = .ok (.iconst 0, 1) := by decide +kernel
theorem dX2_next_96 : decode cX2_next 96 = .ok (.istore_n 1, 1) := by decide +kernel
theorem dX2_next_97 : decode cX2_next 97 = .ok (.iload_n 1, 1) := by decide +kernel
theorem dX2_next_98 : decode cX2_next 98 = .ok (.ifCond .eq 42, 3) := by decide +kernel
theorem dX2_next_101 : decode cX2_next 101 = .ok (.aload_n 0, 1) := by decide +kernel
theorem dX2_next_102 : decode cX2_next 102 = .ok (.getfield 15, 3) := by decide +kernel
theorem dX2_next_105 : decode cX2_next 105 = .ok (.aload_n 0, 1) := by decide +kernel
theorem dX2_next_106 : decode cX2_next 106 = .ok (.getfield 151, 3) := by decide +kernel
theorem dX2_next_109 : decode cX2_next 109 = .ok (.if_icmp .ge 31, 3) := by decide +kernel
theorem dX2_next_112 : decode cX2_next 112 = .ok (.aload_n 0, 1) := by decide +kernel
theorem dX2_next_113 : decode cX2_next 113 = .ok (.aload_n 0, 1) := by decide +kernel
theorem dX2_next_114 : decode cX2_next 114 = .ok (.getfield 15, 3) := by decide +kernel
theorem dX2_next_117 : decode cX2_next 117 = .ok (.invokevirtual 153, 3) := by decide +kernel
theorem dX2_next_120 : decode cX2_next 120 = .ok (.aload_n 0, 1) := by decide +kernel
theorem dX2_next_121 : decode cX2_next 121 = .ok (.getfield 26, 3) := by decide +kernel
theorem dX2_next_124 : decode cX2_next 124 = .ok (.if_icmp .ne 16, 3) := by decide +kernel
theorem dX2_next_127 : decode cX2_next 127 = .ok (.aload_n 0, 1) := by decide +kernel
theorem dX2_next_128 : decode cX2_next 128 = .ok (.dup, 1) := by decide +kernel
theorem dX2_next_129 : decode cX2_next 129 = .ok (.getfield 15, 3) := by decide +kernel
theorem dX2_next_132 : decode cX2_next 132 = .ok (.iconst 1, 1) := by decide +kernel
theorem dX2_next_133 : decode cX2_next 133 = .ok (.iadd, 1) := by decide +kernel
theorem dX2_next_134 : decode cX2_next 134 = .ok (.putfield 15, 3) := by decide +kernel
theorem dX2_next_137 : decode cX2_next 137 = .ok (.goto (-40), 3) := by decide +kernel
theorem dX2_next_140 : decode cX2_next 140 = .ok (.aload_n 0, 1) := by decide +kernel
theorem dX2_next_141 : decode cX2_next 141 = .ok (.aload_n 0, 1) := by decide +kernel
theorem dX2_next_142 : decode cX2_next 142 = .ok (.getfield 26, 3) := by decide +kernel
theorem dX2_next_145 : decode cX2_next 145 = .ok (.iconst 2, 1) := by decide +kernel
theorem dX2_next_146 : decode cX2_next 146 = .ok (.if_icmp .ne 10, 3) := by decide +kernel
theorem dX2_next_149 : decode cX2_next 149 = .ok (.aload_n 0, 1) := by decide +kernel
theorem dX2_next_150 : decode cX2_next 150 = .ok (.invokevirtual 161, 3) := by decide +kernel
theorem dX2_next_153 : decode cX2_next 153 = .ok (.goto 4, 3) := by decide +kernel
theorem dX2_next_156 : decode cX2_next 156 = .ok (.iconst 0, 1) := by decide +kernel
theorem dX2_next_157 : decode cX2_next 157 = .ok (.putfield 82, 3) := by decide +kernel
theorem dX2_next_160 : decode cX2_next 160 = .ok (.return_, 1) := by decide +kernel
theorem dX2_sortAt_0 : decode cX2_sortAt 0 = .ok (.iload_n 1, 1) := by decide +kernel
theorem dX2_sortAt_1 : decode cX2_sortAt 1 = .ok (.aload_n 0, 1) := by decide +kernel
theorem dX2_sortAt_2 : decode cX2_sortAt 2 = .ok (.getfield 151, 3) := by decide +kernel
theorem dX2_sortAt_5 : decode cX2_sortAt 5 = .ok (.if_icmp .lt 5, 3) := by decide +kernel
theorem dX2_sortAt_8 : decode cX2_sortAt 8 = .ok (.iconst 0, 1) := by decide +kernel
theorem dX2_sortAt_9 : decode cX2_sortAt 9 = .ok (.ireturn, 1) := by decide +kernel
theorem dX2_sortAt_10 : decode cX2_sortAt 10 = .ok (.aload_n 0, 1) := by decide +kernel
theorem dX2_sortAt_11 : decode cX2_sortAt 11 = .ok (.getfield 9, 3) := by decide +kernel
theorem dX2_sortAt_14 : decode cX2_sortAt 14 = .ok (.iload_n 1, 1) := by decide +kernel
theorem dX2_sortAt_15 : decode cX2_sortAt 15 = .ok (.iaload, 1) := by decide +kernel
theorem dX2_sortAt_16 : decode cX2_sortAt 16 = .ok (.istore_n 2, 1) := by decide +kernel
theorem dX2_sortAt_17 : decode cX2_sortAt 17 = .ok (.iload_n 2, 1) := by decide +kernel
theorem dX2_sortAt_18 : decode cX2_sortAt 18 = .ok (.bipush 97, 2) := by decide +kernel
theorem dX2_sortAt_20 : decode cX2_sortAt 20 = .ok (.if_icmp .lt 11, 3) := by decide +kernel
theorem dX2_sortAt_23 : decode cX2_sortAt 23 = .ok (.iload_n 2, 1) := by decide +kernel
theorem dX2_sortAt_24 : decode cX2_sortAt 24 = .ok (.bipush 122, 2) := by decide +kernel
theorem dX2_sortAt_26 : decode cX2_sortAt 26 = .ok (.if_icmp .gt 5, 3) := by decide +kernel
theorem dX2_sortAt_29 : decode cX2_sortAt 29 = .ok (.iconst 1, 1) := by decide +kernel
theorem dX2_sortAt_30 : decode cX2_sortAt 30 = .ok (.ireturn, 1) := by decide +kernel
theorem dX2_sortAt_31 : decode cX2_sortAt 31 = .ok (.iload_n 2, 1) := by decide +kernel
theorem dX2_sortAt_32 : decode cX2_sortAt 32 = .ok (.bipush 48, 2) := by decide +kernel
theorem dX2_sortAt_34 : decode cX2_sortAt 34 = .ok (.if_icmp .lt 11, 3) := by decide +kernel
theorem dX2_sortAt_37 : decode cX2_sortAt 37 = .ok (.iload_n 2, 1) := by decide +kernel
theorem dX2_sortAt_38 : decode cX2_sortAt 38 = .ok (.bipush 57, 2) := by decide +kernel
theorem dX2_sortAt_40 : decode cX2_sortAt 40 = .ok (.if_icmp .gt 5, 3) := by decide +kernel
theorem dX2_sortAt_43 : decode cX2_sortAt 43 = .ok (.iconst 2, 1) := by decide +kernel
theorem dX2_sortAt_44 : decode cX2_sortAt 44 = .ok (.ireturn, 1) := by decide +kernel
theorem dX2_sortAt_45 : decode cX2_sortAt 45 = .ok (.iload_n 2, 1) := by decide +kernel
theorem dX2_sortAt_46 : decode cX2_sortAt 46 = .ok (.bipush 59, 2) := by decide +kernel
theorem dX2_sortAt_48 : decode cX2_sortAt 48 = .ok (.if_icmp .ne 7, 3) := by decide +kernel
theorem dX2_sortAt_51 : decode cX2_sortAt 51 = .ok (.iconst 3, 1) := by decide +kernel
theorem dX2_sortAt_52 : decode cX2_sortAt 52 = .ok (.goto 4, 3) := by decide +kernel
theorem dX2_sortAt_55 : decode cX2_sortAt 55 = .ok (.iconst 4, 1) := by decide +kernel
theorem dX2_sortAt_56 : decode cX2_sortAt 56 = .ok (.ireturn, 1) := by decide +kernel
theorem dX2_valueTold_0 : decode cX2_valueTold 0 = .ok (.iconst 0, 1) := by decide +kernel
theorem dX2_valueTold_1 : decode cX2_valueTold 1 = .ok (.istore_n 1, 1) := by decide +kernel
theorem dX2_valueTold_2 : decode cX2_valueTold 2 = .ok (.aload_n 0, 1) := by decide +kernel
theorem dX2_valueTold_3 : decode cX2_valueTold 3 = .ok (.getfield 29, 3) := by decide +kernel
theorem dX2_valueTold_6 : decode cX2_valueTold 6 = .ok (.istore_n 2, 1) := by decide +kernel
theorem dX2_valueTold_7 : decode cX2_valueTold 7 = .ok (.iload_n 2, 1) := by decide +kernel
theorem dX2_valueTold_8 : decode cX2_valueTold 8 = .ok (.aload_n 0, 1) := by decide +kernel
theorem dX2_valueTold_9 : decode cX2_valueTold 9 = .ok (.getfield 15, 3) := by decide +kernel
theorem dX2_valueTold_12 : decode cX2_valueTold 12 = .ok (.if_icmp .ge 31, 3) := by decide +kernel
theorem dX2_valueTold_15 : decode cX2_valueTold 15 = .ok (.iload_n 1, 1) := by decide +kernel
theorem dX2_valueTold_16 : decode cX2_valueTold 16 = .ok (.sipush 9999, 3) := by decide +kernel
theorem dX2_valueTold_19 : decode cX2_valueTold 19 = .ok (.if_icmp .gt 24, 3) := by decide +kernel
theorem dX2_valueTold_22 : decode cX2_valueTold 22 = .ok (.iload_n 1, 1) := by decide +kernel
theorem dX2_valueTold_23 : decode cX2_valueTold 23 = .ok (.bipush 10, 2) := by decide +kernel
theorem dX2_valueTold_25 : decode cX2_valueTold 25 = .ok (.imul, 1) := by decide +kernel
theorem dX2_valueTold_26 : decode cX2_valueTold 26 = .ok (.aload_n 0, 1) := by decide +kernel
theorem dX2_valueTold_27 : decode cX2_valueTold 27 = .ok (.getfield 9, 3) := by decide +kernel
theorem dX2_valueTold_30 : decode cX2_valueTold 30 = .ok (.iload_n 2, 1) := by decide +kernel
theorem dX2_valueTold_31 : decode cX2_valueTold 31 = .ok (.iaload, 1) := by decide +kernel
theorem dX2_valueTold_32 : decode cX2_valueTold 32 = .ok (.iadd, 1) := by decide +kernel
theorem dX2_valueTold_33 : decode cX2_valueTold 33 = .ok (.bipush 48, 2) := by decide +kernel
theorem dX2_valueTold_35 : decode cX2_valueTold 35 = .ok (.isub, 1) := by decide +kernel
theorem dX2_valueTold_36 : decode cX2_valueTold 36 = .ok (.istore_n 1, 1) := by decide +kernel
theorem dX2_valueTold_37 : decode cX2_valueTold 37 = .ok (.iinc 2 1, 3) := by decide +kernel
theorem dX2_valueTold_40 : decode cX2_valueTold 40 = .ok (.goto (-33), 3) := by decide +kernel
theorem dX2_valueTold_43 : decode cX2_valueTold 43 = .ok (.iload_n 1, 1) := by decide +kernel
theorem dX2_valueTold_44 : decode cX2_valueTold 44 = .ok (.ireturn, 1) := by decide +kernel
theorem dJ6_bitCount_0f7a4_0 : decode cJ6_bitCount_0f7a4 0 = .ok (.iload_n 0, 1) := by decide +kernel
theorem dJ6_bitCount_0f7a4_1 : decode cJ6_bitCount_0f7a4 1 = .ok (.iload_n 0, 1) := by decide +kernel
theorem dJ6_bitCount_0f7a4_2 : decode cJ6_bitCount_0f7a4 2 = .ok (.iconst 1, 1) := by decide +kernel
theorem dJ6_bitCount_0f7a4_3 : decode cJ6_bitCount_0f7a4 3 = .ok (.iushr, 1) := by decide +kernel
theorem dJ6_bitCount_0f7a4_4 : decode cJ6_bitCount_0f7a4 4 = .ok (.ldc_w 265, 3) := by decide +kernel
theorem dJ6_bitCount_0f7a4_7 : decode cJ6_bitCount_0f7a4 7 = .ok (.iand, 1) := by decide +kernel
theorem dJ6_bitCount_0f7a4_8 : decode cJ6_bitCount_0f7a4 8 = .ok (.isub, 1) := by decide +kernel
theorem dJ6_bitCount_0f7a4_9 : decode cJ6_bitCount_0f7a4 9 = .ok (.istore_n 0, 1) := by decide +kernel
theorem dJ6_bitCount_0f7a4_10 : decode cJ6_bitCount_0f7a4 10 = .ok (.iload_n 0, 1) := by decide +kernel
theorem dJ6_bitCount_0f7a4_11 : decode cJ6_bitCount_0f7a4 11 = .ok (.ldc_w 266, 3) := by decide +kernel
theorem dJ6_bitCount_0f7a4_14 : decode cJ6_bitCount_0f7a4 14 = .ok (.iand, 1) := by decide +kernel
theorem dJ6_bitCount_0f7a4_15 : decode cJ6_bitCount_0f7a4 15 = .ok (.iload_n 0, 1) := by decide +kernel
theorem dJ6_bitCount_0f7a4_16 : decode cJ6_bitCount_0f7a4 16 = .ok (.iconst 2, 1) := by decide +kernel
theorem dJ6_bitCount_0f7a4_17 : decode cJ6_bitCount_0f7a4 17 = .ok (.iushr, 1) := by decide +kernel
theorem dJ6_bitCount_0f7a4_18 : decode cJ6_bitCount_0f7a4 18 = .ok (.ldc_w 266, 3) := by decide +kernel
theorem dJ6_bitCount_0f7a4_21 : decode cJ6_bitCount_0f7a4 21 = .ok (.iand, 1) := by decide +kernel
theorem dJ6_bitCount_0f7a4_22 : decode cJ6_bitCount_0f7a4 22 = .ok (.iadd, 1) := by decide +kernel
theorem dJ6_bitCount_0f7a4_23 : decode cJ6_bitCount_0f7a4 23 = .ok (.istore_n 0, 1) := by decide +kernel
theorem dJ6_bitCount_0f7a4_24 : decode cJ6_bitCount_0f7a4 24 = .ok (.iload_n 0, 1) := by decide +kernel
theorem dJ6_bitCount_0f7a4_25 : decode cJ6_bitCount_0f7a4 25 = .ok (.iload_n 0, 1) := by decide +kernel
theorem dJ6_bitCount_0f7a4_26 : decode cJ6_bitCount_0f7a4 26 = .ok (.iconst 4, 1) := by decide +kernel
theorem dJ6_bitCount_0f7a4_27 : decode cJ6_bitCount_0f7a4 27 = .ok (.iushr, 1) := by decide +kernel
theorem dJ6_bitCount_0f7a4_28 : decode cJ6_bitCount_0f7a4 28 = .ok (.iadd, 1) := by decide +kernel
theorem dJ6_bitCount_0f7a4_29 : decode cJ6_bitCount_0f7a4 29 = .ok (.ldc_w 267, 3) := by decide +kernel
theorem dJ6_bitCount_0f7a4_32 : decode cJ6_bitCount_0f7a4 32 = .ok (.iand, 1) := by decide +kernel
theorem dJ6_bitCount_0f7a4_33 : decode cJ6_bitCount_0f7a4 33 = .ok (.istore_n 0, 1) := by decide +kernel
theorem dJ6_bitCount_0f7a4_34 : decode cJ6_bitCount_0f7a4 34 = .ok (.iload_n 0, 1) := by decide +kernel
theorem dJ6_bitCount_0f7a4_35 : decode cJ6_bitCount_0f7a4 35 = .ok (.iload_n 0, 1) := by decide +kernel
theorem dJ6_bitCount_0f7a4_36 : decode cJ6_bitCount_0f7a4 36 = .ok (.bipush 8, 2) := by decide +kernel
theorem dJ6_bitCount_0f7a4_38 : decode cJ6_bitCount_0f7a4 38 = .ok (.iushr, 1) := by decide +kernel
theorem dJ6_bitCount_0f7a4_39 : decode cJ6_bitCount_0f7a4 39 = .ok (.iadd, 1) := by decide +kernel
theorem dJ6_bitCount_0f7a4_40 : decode cJ6_bitCount_0f7a4 40 = .ok (.istore_n 0, 1) := by decide +kernel
theorem dJ6_bitCount_0f7a4_41 : decode cJ6_bitCount_0f7a4 41 = .ok (.iload_n 0, 1) := by decide +kernel
theorem dJ6_bitCount_0f7a4_42 : decode cJ6_bitCount_0f7a4 42 = .ok (.iload_n 0, 1) := by decide +kernel
theorem dJ6_bitCount_0f7a4_43 : decode cJ6_bitCount_0f7a4 43 = .ok (.bipush 16, 2) := by decide +kernel
theorem dJ6_bitCount_0f7a4_45 : decode cJ6_bitCount_0f7a4 45 = .ok (.iushr, 1) := by decide +kernel
theorem dJ6_bitCount_0f7a4_46 : decode cJ6_bitCount_0f7a4 46 = .ok (.iadd, 1) := by decide +kernel
theorem dJ6_bitCount_0f7a4_47 : decode cJ6_bitCount_0f7a4 47 = .ok (.istore_n 0, 1) := by decide +kernel
theorem dJ6_bitCount_0f7a4_48 : decode cJ6_bitCount_0f7a4 48 = .ok (.iload_n 0, 1) := by decide +kernel
theorem dJ6_bitCount_0f7a4_49 : decode cJ6_bitCount_0f7a4 49 = .ok (.bipush 63, 2) := by decide +kernel
theorem dJ6_bitCount_0f7a4_51 : decode cJ6_bitCount_0f7a4 51 = .ok (.iand, 1) := by decide +kernel
theorem dJ6_bitCount_0f7a4_52 : decode cJ6_bitCount_0f7a4 52 = .ok (.ireturn, 1) := by decide +kernel
theorem dJ9_min_7cf53_0 : decode cJ9_min_7cf53 0 = .ok (.iload_n 0, 1) := by decide +kernel
theorem dJ9_min_7cf53_1 : decode cJ9_min_7cf53 1 = .ok (.iload_n 1, 1) := by decide +kernel
theorem dJ9_min_7cf53_2 : decode cJ9_min_7cf53 2 = .ok (.if_icmp .gt 7, 3) := by decide +kernel
theorem dJ9_min_7cf53_5 : decode cJ9_min_7cf53 5 = .ok (.iload_n 0, 1) := by decide +kernel
theorem dJ9_min_7cf53_6 : decode cJ9_min_7cf53 6 = .ok (.goto 4, 3) := by decide +kernel
theorem dJ9_min_7cf53_9 : decode cJ9_min_7cf53 9 = .ok (.iload_n 1, 1) := by decide +kernel
theorem dJ9_min_7cf53_10 : decode cJ9_min_7cf53 10 = .ok (.ireturn, 1) := by decide +kernel
theorem dJ0_length_8abf5_0 : decode cJ0_length_8abf5 0 = .ok (.aload_n 0, 1) := by decide +kernel
theorem dJ0_length_8abf5_1 : decode cJ0_length_8abf5 1 = .ok (.getfield 9, 3) := by decide +kernel
theorem dJ0_length_8abf5_4 : decode cJ0_length_8abf5 4 = .ok (.arraylength, 1) := by decide +kernel
theorem dJ0_length_8abf5_5 : decode cJ0_length_8abf5 5 = .ok (.aload_n 0, 1) := by decide +kernel
theorem dJ0_length_8abf5_6 : decode cJ0_length_8abf5 6 = .ok (.invokevirtual 335, 3) := by decide +kernel
theorem dJ0_length_8abf5_9 : decode cJ0_length_8abf5 9 = .ok (.ishr, 1) := by decide +kernel
theorem dJ0_length_8abf5_10 : decode cJ0_length_8abf5 10 = .ok (.ireturn, 1) := by decide +kernel
theorem dJ0_charAt_5068e_0 : decode cJ0_charAt_5068e 0 = .ok (.aload_n 0, 1) := by decide +kernel
theorem dJ0_charAt_5068e_1 : decode cJ0_charAt_5068e 1 = .ok (.invokevirtual 492, 3) := by decide +kernel
theorem dJ0_charAt_5068e_4 : decode cJ0_charAt_5068e 4 = .ok (.ifCond .eq 12, 3) := by decide +kernel
theorem dJ0_charAt_5068e_7 : decode cJ0_charAt_5068e 7 = .ok (.aload_n 0, 1) := by decide +kernel
theorem dJ0_charAt_5068e_8 : decode cJ0_charAt_5068e 8 = .ok (.getfield 9, 3) := by decide +kernel
theorem dJ0_charAt_5068e_11 : decode cJ0_charAt_5068e 11 = .ok (.iload_n 1, 1) := by decide +kernel
theorem dJ0_charAt_5068e_12 : decode cJ0_charAt_5068e 12 = .ok (.invokestatic 495, 3) := by decide +kernel
theorem dJ0_charAt_5068e_15 : decode cJ0_charAt_5068e 15 = .ok (.ireturn, 1) := by decide +kernel
theorem dJ0_charAt_5068e_16 : decode cJ0_charAt_5068e 16 = .ok (.aload_n 0, 1) := by decide +kernel
theorem dJ0_charAt_5068e_17 : decode cJ0_charAt_5068e 17 = .ok (.getfield 9, 3) := by decide +kernel
theorem dJ0_charAt_5068e_20 : decode cJ0_charAt_5068e 20 = .ok (.iload_n 1, 1) := by decide +kernel
theorem dJ0_charAt_5068e_21 : decode cJ0_charAt_5068e 21 = .ok (.invokestatic 498, 3) := by decide +kernel
theorem dJ0_charAt_5068e_24 : decode cJ0_charAt_5068e 24 = .ok (.ireturn, 1) := by decide +kernel
theorem dJ0_coder_7d493_0 : decode cJ0_coder_7d493 0 = .ok (.getstatic 38, 3) := by decide +kernel
theorem dJ0_coder_7d493_3 : decode cJ0_coder_7d493 3 = .ok (.ifCond .eq 10, 3) := by decide +kernel
theorem dJ0_coder_7d493_6 : decode cJ0_coder_7d493 6 = .ok (.aload_n 0, 1) := by decide +kernel
theorem dJ0_coder_7d493_7 : decode cJ0_coder_7d493 7 = .ok (.getfield 15, 3) := by decide +kernel
theorem dJ0_coder_7d493_10 : decode cJ0_coder_7d493 10 = .ok (.goto 4, 3) := by decide +kernel
theorem dJ0_coder_7d493_13 : decode cJ0_coder_7d493 13 = .ok (.iconst 1, 1) := by decide +kernel
theorem dJ0_coder_7d493_14 : decode cJ0_coder_7d493 14 = .ok (.ireturn, 1) := by decide +kernel
theorem dJ0_isLatin1_aae02_0 : decode cJ0_isLatin1_aae02 0 = .ok (.getstatic 38, 3) := by decide +kernel
theorem dJ0_isLatin1_aae02_3 : decode cJ0_isLatin1_aae02 3 = .ok (.ifCond .eq 14, 3) := by decide +kernel
theorem dJ0_isLatin1_aae02_6 : decode cJ0_isLatin1_aae02 6 = .ok (.aload_n 0, 1) := by decide +kernel
theorem dJ0_isLatin1_aae02_7 : decode cJ0_isLatin1_aae02 7 = .ok (.getfield 15, 3) := by decide +kernel
theorem dJ0_isLatin1_aae02_10 : decode cJ0_isLatin1_aae02 10 = .ok (.ifCond .ne 7, 3) := by decide +kernel
theorem dJ0_isLatin1_aae02_13 : decode cJ0_isLatin1_aae02 13 = .ok (.iconst 1, 1) := by decide +kernel
theorem dJ0_isLatin1_aae02_14 : decode cJ0_isLatin1_aae02 14 = .ok (.goto 4, 3) := by decide +kernel
theorem dJ0_isLatin1_aae02_17 : decode cJ0_isLatin1_aae02 17 = .ok (.iconst 0, 1) := by decide +kernel
theorem dJ0_isLatin1_aae02_18 : decode cJ0_isLatin1_aae02 18 = .ok (.ireturn, 1) := by decide +kernel
theorem dJ0_checkIndex_df160_0 : decode cJ0_checkIndex_df160 0 = .ok (.iload_n 0, 1) := by decide +kernel
theorem dJ0_checkIndex_df160_1 : decode cJ0_checkIndex_df160 1 = .ok (.iload_n 1, 1) := by decide +kernel
theorem dJ0_checkIndex_df160_2 : decode cJ0_checkIndex_df160 2 = .ok (.getstatic 1053, 3) := by decide +kernel
theorem dJ0_checkIndex_df160_5 : decode cJ0_checkIndex_df160 5 = .ok (.invokestatic 1059, 3) := by decide +kernel
theorem dJ0_checkIndex_df160_8 : decode cJ0_checkIndex_df160 8 = .ok (.pop, 1) := by decide +kernel
theorem dJ0_checkIndex_df160_9 : decode cJ0_checkIndex_df160 9 = .ok (.return_, 1) := by decide +kernel
theorem dJ1_charAt_3b067_0 : decode cJ1_charAt_3b067 0 = .ok (.iload_n 1, 1) := by decide +kernel
theorem dJ1_charAt_3b067_1 : decode cJ1_charAt_3b067 1 = .ok (.aload_n 0, 1) := by decide +kernel
theorem dJ1_charAt_3b067_2 : decode cJ1_charAt_3b067 2 = .ok (.arraylength, 1) := by decide +kernel
theorem dJ1_charAt_3b067_3 : decode cJ1_charAt_3b067 3 = .ok (.invokestatic 9, 3) := by decide +kernel
theorem dJ1_charAt_3b067_6 : decode cJ1_charAt_3b067 6 = .ok (.aload_n 0, 1) := by decide +kernel
theorem dJ1_charAt_3b067_7 : decode cJ1_charAt_3b067 7 = .ok (.iload_n 1, 1) := by decide +kernel
theorem dJ1_charAt_3b067_8 : decode cJ1_charAt_3b067 8 = .ok (.baload, 1) := by decide +kernel
theorem dJ1_charAt_3b067_9 : decode cJ1_charAt_3b067 9 = .ok (.sipush 255, 3) := by decide +kernel
theorem dJ1_charAt_3b067_12 : decode cJ1_charAt_3b067 12 = .ok (.iand, 1) := by decide +kernel
theorem dJ1_charAt_3b067_13 : decode cJ1_charAt_3b067 13 = .ok (.i2c, 1) := by decide +kernel
theorem dJ1_charAt_3b067_14 : decode cJ1_charAt_3b067 14 = .ok (.ireturn, 1) := by decide +kernel
theorem dJ2_getChar_3b067_0 : decode cJ2_getChar_3b067 0 = .ok (.getstatic 44, 3) := by decide +kernel
theorem dJ2_getChar_3b067_3 : decode cJ2_getChar_3b067 3 = .ok (.ifCond .ne 25, 3) := by decide +kernel
theorem dJ2_getChar_3b067_6 : decode cJ2_getChar_3b067 6 = .ok (.iload_n 1, 1) := by decide +kernel
theorem dJ2_getChar_3b067_7 : decode cJ2_getChar_3b067 7 = .ok (.ifCond .lt 11, 3) := by decide +kernel
theorem dJ2_getChar_3b067_10 : decode cJ2_getChar_3b067 10 = .ok (.iload_n 1, 1) := by decide +kernel
theorem dJ2_getChar_3b067_11 : decode cJ2_getChar_3b067 11 = .ok (.aload_n 0, 1) := by decide +kernel
theorem dJ2_getChar_3b067_12 : decode cJ2_getChar_3b067 12 = .ok (.invokestatic 48, 3) := by decide +kernel
theorem dJ2_getChar_3b067_15 : decode cJ2_getChar_3b067 15 = .ok (.if_icmp .lt 13, 3) := by decide +kernel
theorem dJ2_getChar_3b067_18 : decode cJ2_getChar_3b067 18 = .ok (.new 52, 3) := by decide +kernel
theorem dJ2_getChar_3b067_21 : decode cJ2_getChar_3b067 21 = .ok (.dup, 1) := by decide +kernel
theorem dJ2_getChar_3b067_22 : decode cJ2_getChar_3b067 22 = .ok (.ldc 54, 2) := by decide +kernel
theorem dJ2_getChar_3b067_24 : decode cJ2_getChar_3b067 24 = .ok (.invokespecial 56, 3) := by decide +kernel
theorem dJ2_getChar_3b067_27 : decode cJ2_getChar_3b067 27 = .ok (.athrow, 1) := by decide +kernel
theorem dJ2_getChar_3b067_28 : decode cJ2_getChar_3b067 28 = .ok (.iload_n 1, 1) := by decide +kernel
theorem dJ2_getChar_3b067_29 : decode cJ2_getChar_3b067 29 = .ok (.iconst 1, 1) := by decide +kernel
theorem dJ2_getChar_3b067_30 : decode cJ2_getChar_3b067 30 = .ok (.ishl, 1) := by decide +kernel
theorem dJ2_getChar_3b067_31 : decode cJ2_getChar_3b067 31 = .ok (.istore_n 1, 1) := by decide +kernel
theorem dJ2_getChar_3b067_32 : decode cJ2_getChar_3b067 32 = .ok (.aload_n 0, 1) := by decide +kernel
theorem dJ2_getChar_3b067_33 : decode cJ2_getChar_3b067 33 = .ok (.iload_n 1, 1) := by decide +kernel
theorem dJ2_getChar_3b067_34 : decode cJ2_getChar_3b067 34 = .ok (.iinc 1 1, 3) := by decide +kernel
theorem dJ2_getChar_3b067_37 : decode cJ2_getChar_3b067 37 = .ok (.baload, 1) := by decide +kernel
theorem dJ2_getChar_3b067_38 : decode cJ2_getChar_3b067 38 = .ok (.sipush 255, 3) := by decide +kernel
theorem dJ2_getChar_3b067_41 : decode cJ2_getChar_3b067 41 = .ok (.iand, 1) := by decide +kernel
theorem dJ2_getChar_3b067_42 : decode cJ2_getChar_3b067 42 = .ok (.getstatic 59, 3) := by decide +kernel
theorem dJ2_getChar_3b067_45 : decode cJ2_getChar_3b067 45 = .ok (.ishl, 1) := by decide +kernel
theorem dJ2_getChar_3b067_46 : decode cJ2_getChar_3b067 46 = .ok (.aload_n 0, 1) := by decide +kernel
theorem dJ2_getChar_3b067_47 : decode cJ2_getChar_3b067 47 = .ok (.iload_n 1, 1) := by decide +kernel
theorem dJ2_getChar_3b067_48 : decode cJ2_getChar_3b067 48 = .ok (.baload, 1) := by decide +kernel
theorem dJ2_getChar_3b067_49 : decode cJ2_getChar_3b067 49 = .ok (.sipush 255, 3) := by decide +kernel
theorem dJ2_getChar_3b067_52 : decode cJ2_getChar_3b067 52 = .ok (.iand, 1) := by decide +kernel
theorem dJ2_getChar_3b067_53 : decode cJ2_getChar_3b067 53 = .ok (.getstatic 63, 3) := by decide +kernel
theorem dJ2_getChar_3b067_56 : decode cJ2_getChar_3b067 56 = .ok (.ishl, 1) := by decide +kernel
theorem dJ2_getChar_3b067_57 : decode cJ2_getChar_3b067 57 = .ok (.ior, 1) := by decide +kernel
theorem dJ2_getChar_3b067_58 : decode cJ2_getChar_3b067 58 = .ok (.i2c, 1) := by decide +kernel
theorem dJ2_getChar_3b067_59 : decode cJ2_getChar_3b067 59 = .ok (.ireturn, 1) := by decide +kernel
theorem dJ2_length_9d52b_0 : decode cJ2_length_9d52b 0 = .ok (.aload_n 0, 1) := by decide +kernel
theorem dJ2_length_9d52b_1 : decode cJ2_length_9d52b 1 = .ok (.arraylength, 1) := by decide +kernel
theorem dJ2_length_9d52b_2 : decode cJ2_length_9d52b 2 = .ok (.iconst 1, 1) := by decide +kernel
theorem dJ2_length_9d52b_3 : decode cJ2_length_9d52b 3 = .ok (.ishr, 1) := by decide +kernel
theorem dJ2_length_9d52b_4 : decode cJ2_length_9d52b 4 = .ok (.ireturn, 1) := by decide +kernel
theorem dJ2_charAt_3b067_0 : decode cJ2_charAt_3b067 0 = .ok (.iload_n 1, 1) := by decide +kernel
theorem dJ2_charAt_3b067_1 : decode cJ2_charAt_3b067 1 = .ok (.aload_n 0, 1) := by decide +kernel
theorem dJ2_charAt_3b067_2 : decode cJ2_charAt_3b067 2 = .ok (.invokestatic 67, 3) := by decide +kernel
theorem dJ2_charAt_3b067_5 : decode cJ2_charAt_3b067 5 = .ok (.aload_n 0, 1) := by decide +kernel
theorem dJ2_charAt_3b067_6 : decode cJ2_charAt_3b067 6 = .ok (.iload_n 1, 1) := by decide +kernel
theorem dJ2_charAt_3b067_7 : decode cJ2_charAt_3b067 7 = .ok (.invokestatic 71, 3) := by decide +kernel
theorem dJ2_charAt_3b067_10 : decode cJ2_charAt_3b067 10 = .ok (.ireturn, 1) := by decide +kernel
theorem dJ2_checkIndex_2214a_0 : decode cJ2_checkIndex_2214a 0 = .ok (.iload_n 0, 1) := by decide +kernel
theorem dJ2_checkIndex_2214a_1 : decode cJ2_checkIndex_2214a 1 = .ok (.aload_n 1, 1) := by decide +kernel
theorem dJ2_checkIndex_2214a_2 : decode cJ2_checkIndex_2214a 2 = .ok (.invokestatic 48, 3) := by decide +kernel
theorem dJ2_checkIndex_2214a_5 : decode cJ2_checkIndex_2214a 5 = .ok (.invokestatic 414, 3) := by decide +kernel
theorem dJ2_checkIndex_2214a_8 : decode cJ2_checkIndex_2214a 8 = .ok (.return_, 1) := by decide +kernel
theorem dJ3_checkIndex_8e157_0 : decode cJ3_checkIndex_8e157 0 = .ok (.iload_n 0, 1) := by decide +kernel
theorem dJ3_checkIndex_8e157_1 : decode cJ3_checkIndex_8e157 1 = .ok (.ifCond .lt 8, 3) := by decide +kernel
theorem dJ3_checkIndex_8e157_4 : decode cJ3_checkIndex_8e157 4 = .ok (.iload_n 0, 1) := by decide +kernel
theorem dJ3_checkIndex_8e157_5 : decode cJ3_checkIndex_8e157 5 = .ok (.iload_n 1, 1) := by decide +kernel
theorem dJ3_checkIndex_8e157_6 : decode cJ3_checkIndex_8e157 6 = .ok (.if_icmp .lt 10, 3) := by decide +kernel
theorem dJ3_checkIndex_8e157_9 : decode cJ3_checkIndex_8e157 9 = .ok (.aload_n 2, 1) := by decide +kernel
theorem dJ3_checkIndex_8e157_10 : decode cJ3_checkIndex_8e157 10 = .ok (.iload_n 0, 1) := by decide +kernel
theorem dJ3_checkIndex_8e157_11 : decode cJ3_checkIndex_8e157 11 = .ok (.iload_n 1, 1) := by decide +kernel
theorem dJ3_checkIndex_8e157_12 : decode cJ3_checkIndex_8e157 12 = .ok (.invokestatic 95, 3) := by decide +kernel
theorem dJ3_checkIndex_8e157_15 : decode cJ3_checkIndex_8e157 15 = .ok (.athrow, 1) := by decide +kernel
theorem dJ3_checkIndex_8e157_16 : decode cJ3_checkIndex_8e157 16 = .ok (.iload_n 0, 1) := by decide +kernel
theorem dJ3_checkIndex_8e157_17 : decode cJ3_checkIndex_8e157 17 = .ok (.ireturn, 1) := by decide +kernel

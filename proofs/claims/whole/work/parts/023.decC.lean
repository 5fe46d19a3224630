theorem dX12_within_0 : decode cX12_within 0 = .ok (.lload_n 0, 1) := by decide +kernel
theorem dX12_within_1 : decode cX12_within 1 = .ok (.lload_n 2, 1) := by decide +kernel
theorem dX12_within_2 : decode cX12_within 2 = .ok (.lcmp, 1) := by decide +kernel
theorem dX12_within_3 : decode cX12_within 3 = .ok (.ifCond .lt 14, 3) := by decide +kernel
theorem dX12_within_6 : decode cX12_within 6 = .ok (.lload_n 0, 1) := by decide +kernel
theorem dX12_within_7 : decode cX12_within 7 = .ok (.lload 4, 2) := by decide +kernel
theorem dX12_within_9 : decode cX12_within 9 = .ok (.lcmp, 1) := by decide +kernel
theorem dX12_within_10 : decode cX12_within 10 = .ok (.ifCond .gt 7, 3) := by decide +kernel
theorem dX12_within_13 : decode cX12_within 13 = .ok (.iconst 1, 1) := by decide +kernel
theorem dX12_within_14 : decode cX12_within 14 = .ok (.goto 4, 3) := by decide +kernel
theorem dX12_within_17 : decode cX12_within 17 = .ok (.iconst 0, 1) := by decide +kernel
theorem dX12_within_18 : decode cX12_within 18 = .ok (.ireturn, 1) := by decide +kernel
theorem dX12_init_0 : decode cX12_init 0 = .ok (.aload_n 0, 1) := by decide +kernel
theorem dX12_init_1 : decode cX12_init 1 = .ok (.invokespecial 7, 3) := by decide +kernel
theorem dX12_init_4 : decode cX12_init 4 = .ok (.aload_n 0, 1) := by decide +kernel
theorem dX12_init_5 : decode cX12_init 5 = .ok (.sipush 3492, 3) := by decide +kernel
theorem dX12_init_8 : decode cX12_init 8 = .ok (.newarray .int, 2) := by decide +kernel
theorem dX12_init_10 : decode cX12_init 10 = .ok (.putfield 13, 3) := by decide +kernel
theorem dX12_init_13 : decode cX12_init 13 = .ok (.aload_n 0, 1) := by decide +kernel
theorem dX12_init_14 : decode cX12_init 14 = .ok (.iconst 2, 1) := by decide +kernel
theorem dX12_init_15 : decode cX12_init 15 = .ok (.newarray .boolean, 2) := by decide +kernel
theorem dX12_init_17 : decode cX12_init 17 = .ok (.putfield 17, 3) := by decide +kernel
theorem dX12_init_20 : decode cX12_init 20 = .ok (.aload_n 0, 1) := by decide +kernel
theorem dX12_init_21 : decode cX12_init 21 = .ok (.sipush 900, 3) := by decide +kernel
theorem dX12_init_24 : decode cX12_init 24 = .ok (.newarray .int, 2) := by decide +kernel
theorem dX12_init_26 : decode cX12_init 26 = .ok (.putfield 21, 3) := by decide +kernel
theorem dX12_init_29 : decode cX12_init 29 = .ok (.aload_n 0, 1) := by decide +kernel
theorem dX12_init_30 : decode cX12_init 30 = .ok (.sipush 1164, 3) := by decide +kernel
theorem dX12_init_33 : decode cX12_init 33 = .ok (.newarray .int, 2) := by decide +kernel
theorem dX12_init_35 : decode cX12_init 35 = .ok (.putfield 24, 3) := by decide +kernel
theorem dX12_init_38 : decode cX12_init 38 = .ok (.aload_n 0, 1) := by decide +kernel
theorem dX12_init_39 : decode cX12_init 39 = .ok (.iconst (-1), 1) := by decide +kernel
theorem dX12_init_40 : decode cX12_init 40 = .ok (.putfield 27, 3) := by decide +kernel
theorem dX12_init_43 : decode cX12_init 43 = .ok (.aload_n 0, 1) := by decide +kernel
theorem dX12_init_44 : decode cX12_init 44 = .ok (.sipush 900, 3) := by decide +kernel
theorem dX12_init_47 : decode cX12_init 47 = .ok (.newarray .int, 2) := by decide +kernel
theorem dX12_init_49 : decode cX12_init 49 = .ok (.putfield 30, 3) := by decide +kernel
theorem dX12_init_52 : decode cX12_init 52 = .ok (.aload_n 0, 1) := by decide +kernel
theorem dX12_init_53 : decode cX12_init 53 = .ok (.bipush 8, 2) := by decide +kernel
theorem dX12_init_55 : decode cX12_init 55 = .ok (.newarray .int, 2) := by decide +kernel
theorem dX12_init_57 : decode cX12_init 57 = .ok (.putfield 33, 3) := by decide +kernel
theorem dX12_init_60 : decode cX12_init 60 = .ok (.aload_n 0, 1) := by decide +kernel
theorem dX12_init_61 : decode cX12_init 61 = .ok (.sipush 12300, 3) := by decide +kernel
theorem dX12_init_64 : decode cX12_init 64 = .ok (.newarray .int, 2) := by decide +kernel
theorem dX12_init_66 : decode cX12_init 66 = .ok (.putfield 36, 3) := by decide +kernel
theorem dX12_init_69 : decode cX12_init 69 = .ok (.aload_n 0, 1) := by decide +kernel
theorem dX12_init_70 : decode cX12_init 70 = .ok (.sipush 2665, 3) := by decide +kernel
theorem dX12_init_73 : decode cX12_init 73 = .ok (.newarray .int, 2) := by decide +kernel
theorem dX12_init_75 : decode cX12_init 75 = .ok (.putfield 39, 3) := by decide +kernel
theorem dX12_init_78 : decode cX12_init 78 = .ok (.aload_n 0, 1) := by decide +kernel
theorem dX12_init_79 : decode cX12_init 79 = .ok (.bipush 12, 2) := by decide +kernel
theorem dX12_init_81 : decode cX12_init 81 = .ok (.newarray .int, 2) := by decide +kernel
theorem dX12_init_83 : decode cX12_init 83 = .ok (.putfield 42, 3) := by decide +kernel
theorem dX12_init_86 : decode cX12_init 86 = .ok (.aload_n 0, 1) := by decide +kernel
theorem dX12_init_87 : decode cX12_init 87 = .ok (.bipush 12, 2) := by decide +kernel
theorem dX12_init_89 : decode cX12_init 89 = .ok (.newarray .int, 2) := by decide +kernel
theorem dX12_init_91 : decode cX12_init 91 = .ok (.putfield 45, 3) := by decide +kernel
theorem dX12_init_94 : decode cX12_init 94 = .ok (.aload_n 0, 1) := by decide +kernel
theorem dX12_init_95 : decode cX12_init 95 = .ok (.bipush 17, 2) := by decide +kernel
theorem dX12_init_97 : decode cX12_init 97 = .ok (.newarray .int, 2) := by decide +kernel
theorem dX12_init_99 : decode cX12_init 99 = .ok (.putfield 48, 3) := by decide +kernel
theorem dX12_init_102 : decode cX12_init 102 = .ok (.aload_n 0, 1) := by decide +kernel
theorem dX12_init_103 : decode cX12_init 103 = .ok (.sipush 205, 3) := by decide +kernel
theorem dX12_init_106 : decode cX12_init 106 = .ok (.newarray .long, 2) := by decide +kernel
theorem dX12_init_108 : decode cX12_init 108 = .ok (.putfield 51, 3) := by decide +kernel
theorem dX12_init_111 : decode cX12_init 111 = .ok (.aload_n 0, 1) := by decide +kernel
theorem dX12_init_112 : decode cX12_init 112 = .ok (.sipush 205, 3) := by decide +kernel
theorem dX12_init_115 : decode cX12_init 115 = .ok (.newarray .long, 2) := by decide +kernel
theorem dX12_init_117 : decode cX12_init 117 = .ok (.putfield 55, 3) := by decide +kernel
theorem dX12_init_120 : decode cX12_init 120 = .ok (.aload_n 0, 1) := by decide +kernel
theorem dX12_init_121 : decode cX12_init 121 = .ok (.sipush 8405, 3) := by decide +kernel
theorem dX12_init_124 : decode cX12_init 124 = .ok (.newarray .int, 2) := by decide +kernel
theorem dX12_init_126 : decode cX12_init 126 = .ok (.putfield 58, 3) := by decide +kernel
theorem dX12_init_129 : decode cX12_init 129 = .ok (.aload_n 0, 1) := by decide +kernel
theorem dX12_init_130 : decode cX12_init 130 = .ok (.sipush 1312, 3) := by decide +kernel
theorem dX12_init_133 : decode cX12_init 133 = .ok (.newarray .int, 2) := by decide +kernel
theorem dX12_init_135 : decode cX12_init 135 = .ok (.putfield 61, 3) := by decide +kernel
theorem dX12_init_138 : decode cX12_init 138 = .ok (.aload_n 0, 1) := by decide +kernel
theorem dX12_init_139 : decode cX12_init 139 = .ok (.bipush 41, 2) := by decide +kernel
theorem dX12_init_141 : decode cX12_init 141 = .ok (.newarray .boolean, 2) := by decide +kernel
theorem dX12_init_143 : decode cX12_init 143 = .ok (.putfield 64, 3) := by decide +kernel
theorem dX12_init_146 : decode cX12_init 146 = .ok (.aload_n 0, 1) := by decide +kernel
theorem dX12_init_147 : decode cX12_init 147 = .ok (.bipush 41, 2) := by decide +kernel
theorem dX12_init_149 : decode cX12_init 149 = .ok (.newarray .boolean, 2) := by decide +kernel
theorem dX12_init_151 : decode cX12_init 151 = .ok (.putfield 67, 3) := by decide +kernel
theorem dX12_init_154 : decode cX12_init 154 = .ok (.aload_n 0, 1) := by decide +kernel
theorem dX12_init_155 : decode cX12_init 155 = .ok (.bipush 41, 2) := by decide +kernel
theorem dX12_init_157 : decode cX12_init 157 = .ok (.newarray .int, 2) := by decide +kernel
theorem dX12_init_159 : decode cX12_init 159 = .ok (.putfield 70, 3) := by decide +kernel
theorem dX12_init_162 : decode cX12_init 162 = .ok (.aload_n 0, 1) := by decide +kernel
theorem dX12_init_163 : decode cX12_init 163 = .ok (.bipush 41, 2) := by decide +kernel
theorem dX12_init_165 : decode cX12_init 165 = .ok (.newarray .int, 2) := by decide +kernel
theorem dX12_init_167 : decode cX12_init 167 = .ok (.putfield 73, 3) := by decide +kernel
theorem dX12_init_170 : decode cX12_init 170 = .ok (.aload_n 0, 1) := by decide +kernel
theorem dX12_init_171 : decode cX12_init 171 = .ok (.iconst 4, 1) := by decide +kernel
theorem dX12_init_172 : decode cX12_init 172 = .ok (.newarray .int, 2) := by decide +kernel
theorem dX12_init_174 : decode cX12_init 174 = .ok (.dup, 1) := by decide +kernel
theorem dX12_init_175 : decode cX12_init 175 = .ok (.iconst 0, 1) := by decide +kernel
theorem dX12_init_176 : decode cX12_init 176 = .ok (.iconst (-1), 1) := by decide +kernel
theorem dX12_init_177 : decode cX12_init 177 = .ok (.iastore, 1) := by decide +kernel
theorem dX12_init_178 : decode cX12_init 178 = .ok (.dup, 1) := by decide +kernel
theorem dX12_init_179 : decode cX12_init 179 = .ok (.iconst 1, 1) := by decide +kernel
theorem dX12_init_180 : decode cX12_init 180 = .ok (.iconst (-1), 1) := by decide +kernel
theorem dX12_init_181 : decode cX12_init 181 = .ok (.iastore, 1) := by decide +kernel
theorem dX12_init_182 : decode cX12_init 182 = .ok (.dup, 1) := by decide +kernel
theorem dX12_init_183 : decode cX12_init 183 = .ok (.iconst 2, 1) := by decide +kernel
theorem dX12_init_184 : decode cX12_init 184 = .ok (.iconst (-1), 1) := by decide +kernel
theorem dX12_init_185 : decode cX12_init 185 = .ok (.iastore, 1) := by decide +kernel
theorem dX12_init_186 : decode cX12_init 186 = .ok (.dup, 1) := by decide +kernel
theorem dX12_init_187 : decode cX12_init 187 = .ok (.iconst 3, 1) := by decide +kernel
theorem dX12_init_188 : decode cX12_init 188 = .ok (.iconst (-1), 1) := by decide +kernel
theorem dX12_init_189 : decode cX12_init 189 = .ok (.iastore, 1) := by decide +kernel
theorem dX12_init_190 : decode cX12_init 190 = .ok (.putfield 76, 3) := by decide +kernel
theorem dX12_init_193 : decode cX12_init 193 = .ok (.aload_n 0, 1) := by decide +kernel
theorem dX12_init_194 : decode cX12_init 194 = .ok (.iconst 4, 1) := by decide +kernel
theorem dX12_init_195 : decode cX12_init 195 = .ok (.newarray .int, 2) := by decide +kernel
theorem dX12_init_197 : decode cX12_init 197 = .ok (.putfield 79, 3) := by decide +kernel
theorem dX12_init_200 : decode cX12_init 200 = .ok (.aload_n 0, 1) := by decide +kernel
theorem dX12_init_201 : decode cX12_init 201 = .ok (.sipush 160, 3) := by decide +kernel
theorem dX12_init_204 : decode cX12_init 204 = .ok (.newarray .long, 2) := by decide +kernel
theorem dX12_init_206 : decode cX12_init 206 = .ok (.putfield 82, 3) := by decide +kernel
theorem dX12_init_209 : decode cX12_init 209 = .ok (.aload_n 0, 1) := by decide +kernel
theorem dX12_init_210 : decode cX12_init 210 = .ok (.getfield 13, 3) := by decide +kernel
theorem dX12_init_213 : decode cX12_init 213 = .ok (.invokestatic 85, 3) := by decide +kernel
theorem dX12_init_216 : decode cX12_init 216 = .ok (.return_, 1) := by decide +kernel
theorem dX12_plain_0 : decode cX12_plain 0 = .ok (.iconst 0, 1) := by decide +kernel
theorem dX12_plain_1 : decode cX12_plain 1 = .ok (.istore_n 1, 1) := by decide +kernel
theorem dX12_plain_2 : decode cX12_plain 2 = .ok (.iload_n 1, 1) := by decide +kernel
theorem dX12_plain_3 : decode cX12_plain 3 = .ok (.sipush 1164, 3) := by decide +kernel
theorem dX12_plain_6 : decode cX12_plain 6 = .ok (.if_icmp .ge 13, 3) := by decide +kernel
theorem dX12_plain_9 : decode cX12_plain 9 = .ok (.aload_n 0, 1) := by decide +kernel
theorem dX12_plain_10 : decode cX12_plain 10 = .ok (.iload_n 1, 1) := by decide +kernel
theorem dX12_plain_11 : decode cX12_plain 11 = .ok (.iconst 0, 1) := by decide +kernel
theorem dX12_plain_12 : decode cX12_plain 12 = .ok (.iastore, 1) := by decide +kernel
theorem dX12_plain_13 : decode cX12_plain 13 = .ok (.iinc 1 1, 3) := by decide +kernel
theorem dX12_plain_16 : decode cX12_plain 16 = .ok (.goto (-14), 3) := by decide +kernel
theorem dX12_plain_19 : decode cX12_plain 19 = .ok (.return_, 1) := by decide +kernel
theorem dX12_feed_0 : decode cX12_feed 0 = .ok (.aload_n 0, 1) := by decide +kernel
theorem dX12_feed_1 : decode cX12_feed 1 = .ok (.iconst 0, 1) := by decide +kernel
theorem dX12_feed_2 : decode cX12_feed 2 = .ok (.putfield 1, 3) := by decide +kernel
theorem dX12_feed_5 : decode cX12_feed 5 = .ok (.aload_n 0, 1) := by decide +kernel
theorem dX12_feed_6 : decode cX12_feed 6 = .ok (.getfield 89, 3) := by decide +kernel
theorem dX12_feed_9 : decode cX12_feed 9 = .ok (.bipush 20, 2) := by decide +kernel
theorem dX12_feed_11 : decode cX12_feed 11 = .ok (.iadd, 1) := by decide +kernel
theorem dX12_feed_12 : decode cX12_feed 12 = .ok (.sipush 900, 3) := by decide +kernel
theorem dX12_feed_15 : decode cX12_feed 15 = .ok (.if_icmp .le 6, 3) := by decide +kernel
theorem dX12_feed_18 : decode cX12_feed 18 = .ok (.ldc 92, 2) := by decide +kernel
theorem dX12_feed_20 : decode cX12_feed 20 = .ok (.ireturn, 1) := by decide +kernel
theorem dX12_feed_21 : decode cX12_feed 21 = .ok (.iconst 0, 1) := by decide +kernel
theorem dX12_feed_22 : decode cX12_feed 22 = .ok (.istore 6, 2) := by decide +kernel
theorem dX12_feed_24 : decode cX12_feed 24 = .ok (.iload 6, 2) := by decide +kernel
theorem dX12_feed_26 : decode cX12_feed 26 = .ok (.bipush 20, 2) := by decide +kernel
theorem dX12_feed_28 : decode cX12_feed 28 = .ok (.if_icmp .ge 93, 3) := by decide +kernel
theorem dX12_feed_31 : decode cX12_feed 31 = .ok (.iload 6, 2) := by decide +kernel
theorem dX12_feed_33 : decode cX12_feed 33 = .ok (.iconst 4, 1) := by decide +kernel
theorem dX12_feed_34 : decode cX12_feed 34 = .ok (.if_icmp .ge 7, 3) := by decide +kernel
theorem dX12_feed_37 : decode cX12_feed 37 = .ok (.iload_n 1, 1) := by decide +kernel
theorem dX12_feed_38 : decode cX12_feed 38 = .ok (.goto 39, 3) := by decide +kernel
theorem dX12_feed_41 : decode cX12_feed 41 = .ok (.iload 6, 2) := by decide +kernel
theorem dX12_feed_43 : decode cX12_feed 43 = .ok (.bipush 8, 2) := by decide +kernel
theorem dX12_feed_45 : decode cX12_feed 45 = .ok (.if_icmp .ge 7, 3) := by decide +kernel
theorem dX12_feed_48 : decode cX12_feed 48 = .ok (.iload_n 2, 1) := by decide +kernel
theorem dX12_feed_49 : decode cX12_feed 49 = .ok (.goto 28, 3) := by decide +kernel
theorem dX12_feed_52 : decode cX12_feed 52 = .ok (.iload 6, 2) := by decide +kernel
theorem dX12_feed_54 : decode cX12_feed 54 = .ok (.bipush 12, 2) := by decide +kernel
theorem dX12_feed_56 : decode cX12_feed 56 = .ok (.if_icmp .ge 7, 3) := by decide +kernel
theorem dX12_feed_59 : decode cX12_feed 59 = .ok (.iload_n 3, 1) := by decide +kernel
theorem dX12_feed_60 : decode cX12_feed 60 = .ok (.goto 17, 3) := by decide +kernel
theorem dX12_feed_63 : decode cX12_feed 63 = .ok (.iload 6, 2) := by decide +kernel
theorem dX12_feed_65 : decode cX12_feed 65 = .ok (.bipush 16, 2) := by decide +kernel
theorem dX12_feed_67 : decode cX12_feed 67 = .ok (.if_icmp .ge 8, 3) := by decide +kernel
theorem dX12_feed_70 : decode cX12_feed 70 = .ok (.iload 4, 2) := by decide +kernel
theorem dX12_feed_72 : decode cX12_feed 72 = .ok (.goto 5, 3) := by decide +kernel
theorem dX12_feed_75 : decode cX12_feed 75 = .ok (.iload 5, 2) := by decide +kernel
theorem dX12_feed_77 : decode cX12_feed 77 = .ok (.istore 7, 2) := by decide +kernel
theorem dX12_feed_79 : decode cX12_feed 79 = .ok (.aload_n 0, 1) := by decide +kernel
theorem dX12_feed_80 : decode cX12_feed 80 = .ok (.getfield 21, 3) := by decide +kernel
theorem dX12_feed_83 : decode cX12_feed 83 = .ok (.aload_n 0, 1) := by decide +kernel
theorem dX12_feed_84 : decode cX12_feed 84 = .ok (.getfield 89, 3) := by decide +kernel
theorem dX12_feed_87 : decode cX12_feed 87 = .ok (.iload 7, 2) := by decide +kernel
theorem dX12_feed_89 : decode cX12_feed 89 = .ok (.bipush 24, 2) := by decide +kernel
theorem dX12_feed_91 : decode cX12_feed 91 = .ok (.bipush 8, 2) := by decide +kernel
theorem dX12_feed_93 : decode cX12_feed 93 = .ok (.iload 6, 2) := by decide +kernel
theorem dX12_feed_95 : decode cX12_feed 95 = .ok (.iconst 4, 1) := by decide +kernel
theorem dX12_feed_96 : decode cX12_feed 96 = .ok (.irem, 1) := by decide +kernel
theorem dX12_feed_97 : decode cX12_feed 97 = .ok (.imul, 1) := by decide +kernel
theorem dX12_feed_98 : decode cX12_feed 98 = .ok (.isub, 1) := by decide +kernel
theorem dX12_feed_99 : decode cX12_feed 99 = .ok (.ishr, 1) := by decide +kernel
theorem dX12_feed_100 : decode cX12_feed 100 = .ok (.sipush 255, 3) := by decide +kernel
theorem dX12_feed_103 : decode cX12_feed 103 = .ok (.iand, 1) := by decide +kernel
theorem dX12_feed_104 : decode cX12_feed 104 = .ok (.iastore, 1) := by decide +kernel
theorem dX12_feed_105 : decode cX12_feed 105 = .ok (.aload_n 0, 1) := by decide +kernel
theorem dX12_feed_106 : decode cX12_feed 106 = .ok (.dup, 1) := by decide +kernel
theorem dX12_feed_107 : decode cX12_feed 107 = .ok (.getfield 89, 3) := by decide +kernel
theorem dX12_feed_110 : decode cX12_feed 110 = .ok (.iconst 1, 1) := by decide +kernel
theorem dX12_feed_111 : decode cX12_feed 111 = .ok (.iadd, 1) := by decide +kernel
theorem dX12_feed_112 : decode cX12_feed 112 = .ok (.putfield 89, 3) := by decide +kernel
theorem dX12_feed_115 : decode cX12_feed 115 = .ok (.iinc 6 1, 3) := by decide +kernel
theorem dX12_feed_118 : decode cX12_feed 118 = .ok (.goto (-94), 3) := by decide +kernel
theorem dX12_feed_121 : decode cX12_feed 121 = .ok (.aload_n 0, 1) := by decide +kernel
theorem dX12_feed_122 : decode cX12_feed 122 = .ok (.getfield 89, 3) := by decide +kernel
theorem dX12_feed_125 : decode cX12_feed 125 = .ok (.ireturn, 1) := by decide +kernel
theorem dX12_see_0 : decode cX12_see 0 = .ok (.iload_n 1, 1) := by decide +kernel
theorem dX12_see_1 : decode cX12_see 1 = .ok (.aload_n 0, 1) := by decide +kernel
theorem dX12_see_2 : decode cX12_see 2 = .ok (.getfield 93, 3) := by decide +kernel
theorem dX12_see_5 : decode cX12_see 5 = .ok (.if_icmp .ge 12, 3) := by decide +kernel
theorem dX12_see_8 : decode cX12_see 8 = .ok (.aload_n 0, 1) := by decide +kernel
theorem dX12_see_9 : decode cX12_see 9 = .ok (.getfield 21, 3) := by decide +kernel
theorem dX12_see_12 : decode cX12_see 12 = .ok (.iload_n 1, 1) := by decide +kernel
theorem dX12_see_13 : decode cX12_see 13 = .ok (.iaload, 1) := by decide +kernel
theorem dX12_see_14 : decode cX12_see 14 = .ok (.goto 4, 3) := by decide +kernel
theorem dX12_see_17 : decode cX12_see 17 = .ok (.iconst (-1), 1) := by decide +kernel
theorem dX12_see_18 : decode cX12_see 18 = .ok (.ireturn, 1) := by decide +kernel
theorem dX12_isSmall_0 : decode cX12_isSmall 0 = .ok (.iload_n 0, 1) := by decide +kernel
theorem dX12_isSmall_1 : decode cX12_isSmall 1 = .ok (.bipush 97, 2) := by decide +kernel
theorem dX12_isSmall_3 : decode cX12_isSmall 3 = .ok (.if_icmp .lt 13, 3) := by decide +kernel
theorem dX12_isSmall_6 : decode cX12_isSmall 6 = .ok (.iload_n 0, 1) := by decide +kernel
theorem dX12_isSmall_7 : decode cX12_isSmall 7 = .ok (.bipush 122, 2) := by decide +kernel
theorem dX12_isSmall_9 : decode cX12_isSmall 9 = .ok (.if_icmp .gt 7, 3) := by decide +kernel
theorem dX12_isSmall_12 : decode cX12_isSmall 12 = .ok (.iconst 1, 1) := by decide +kernel
theorem dX12_isSmall_13 : decode cX12_isSmall 13 = .ok (.goto 4, 3) := by decide +kernel
theorem dX12_isSmall_16 : decode cX12_isSmall 16 = .ok (.iconst 0, 1) := by decide +kernel
theorem dX12_isSmall_17 : decode cX12_isSmall 17 = .ok (.ireturn, 1) := by decide +kernel
theorem dX12_isDigit_0 : decode cX12_isDigit 0 = .ok (.iload_n 0, 1) := by decide +kernel
theorem dX12_isDigit_1 : decode cX12_isDigit 1 = .ok (.bipush 48, 2) := by decide +kernel
theorem dX12_isDigit_3 : decode cX12_isDigit 3 = .ok (.if_icmp .lt 13, 3) := by decide +kernel
theorem dX12_isDigit_6 : decode cX12_isDigit 6 = .ok (.iload_n 0, 1) := by decide +kernel
theorem dX12_isDigit_7 : decode cX12_isDigit 7 = .ok (.bipush 57, 2) := by decide +kernel
theorem dX12_isDigit_9 : decode cX12_isDigit 9 = .ok (.if_icmp .gt 7, 3) := by decide +kernel
theorem dX12_isDigit_12 : decode cX12_isDigit 12 = .ok (.iconst 1, 1) := by decide +kernel
theorem dX12_isDigit_13 : decode cX12_isDigit 13 = .ok (.goto 4, 3) := by decide +kernel
theorem dX12_isDigit_16 : decode cX12_isDigit 16 = .ok (.iconst 0, 1) := by decide +kernel
theorem dX12_isDigit_17 : decode cX12_isDigit 17 = .ok (.ireturn, 1) := by decide +kernel
theorem dX12_keyAt_0 : decode cX12_keyAt 0 = .ok (.iconst 0, 1) := by decide +kernel
theorem dX12_keyAt_1 : decode cX12_keyAt 1 = .ok (.istore_n 1, 1) := by decide +kernel
theorem dX12_keyAt_2 : decode cX12_keyAt 2 = .ok (.iconst 1, 1) := by decide +kernel
theorem dX12_keyAt_3 : decode cX12_keyAt 3 = .ok (.istore_n 2, 1) := by decide +kernel
theorem dX12_keyAt_4 : decode cX12_keyAt 4 = .ok (.iload_n 2, 1) := by decide +kernel
theorem dX12_keyAt_5 : decode cX12_keyAt 5 = .ok (.ldc 96, 2) := by decide +kernel
theorem dX12_keyAt_7 : decode cX12_keyAt 7 = .ok (.invokevirtual 98, 3) := by decide +kernel
theorem dX12_keyAt_10 : decode cX12_keyAt 10 = .ok (.if_icmp .ge 113, 3) := by decide +kernel
theorem dX12_keyAt_13 : decode cX12_keyAt 13 = .ok (.iconst 0, 1) := by decide +kernel
theorem dX12_keyAt_14 : decode cX12_keyAt 14 = .ok (.istore_n 3, 1) := by decide +kernel
theorem dX12_keyAt_15 : decode cX12_keyAt 15 = .ok (.ldc 96, 2) := by decide +kernel
theorem dX12_keyAt_17 : decode cX12_keyAt 17 = .ok (.iload_n 2, 1) := by decide +kernel
theorem dX12_keyAt_18 : decode cX12_keyAt 18 = .ok (.iload_n 3, 1) := by decide +kernel
theorem dX12_keyAt_19 : decode cX12_keyAt 19 = .ok (.iadd, 1) := by decide +kernel
theorem dX12_keyAt_20 : decode cX12_keyAt 20 = .ok (.invokevirtual 104, 3) := by decide +kernel
theorem dX12_keyAt_23 : decode cX12_keyAt 23 = .ok (.bipush 32, 2) := by decide +kernel
theorem dX12_keyAt_25 : decode cX12_keyAt 25 = .ok (.if_icmp .eq 44, 3) := by decide +kernel
theorem dX12_keyAt_28 : decode cX12_keyAt 28 = .ok (.aload_n 0, 1) := by decide +kernel
theorem dX12_keyAt_29 : decode cX12_keyAt 29 = .ok (.getfield 108, 3) := by decide +kernel
theorem dX12_keyAt_32 : decode cX12_keyAt 32 = .ok (.iload_n 3, 1) := by decide +kernel
theorem dX12_keyAt_33 : decode cX12_keyAt 33 = .ok (.iadd, 1) := by decide +kernel
theorem dX12_keyAt_34 : decode cX12_keyAt 34 = .ok (.aload_n 0, 1) := by decide +kernel
theorem dX12_keyAt_35 : decode cX12_keyAt 35 = .ok (.getfield 111, 3) := by decide +kernel
theorem dX12_keyAt_38 : decode cX12_keyAt 38 = .ok (.if_icmp .ge 31, 3) := by decide +kernel
theorem dX12_keyAt_41 : decode cX12_keyAt 41 = .ok (.aload_n 0, 1) := by decide +kernel
theorem dX12_keyAt_42 : decode cX12_keyAt 42 = .ok (.getfield 21, 3) := by decide +kernel
theorem dX12_keyAt_45 : decode cX12_keyAt 45 = .ok (.aload_n 0, 1) := by decide +kernel
theorem dX12_keyAt_46 : decode cX12_keyAt 46 = .ok (.getfield 108, 3) := by decide +kernel
theorem dX12_keyAt_49 : decode cX12_keyAt 49 = .ok (.iload_n 3, 1) := by decide +kernel
theorem dX12_keyAt_50 : decode cX12_keyAt 50 = .ok (.iadd, 1) := by decide +kernel
theorem dX12_keyAt_51 : decode cX12_keyAt 51 = .ok (.iaload, 1) := by decide +kernel
theorem dX12_keyAt_52 : decode cX12_keyAt 52 = .ok (.ldc 96, 2) := by decide +kernel
theorem dX12_keyAt_54 : decode cX12_keyAt 54 = .ok (.iload_n 2, 1) := by decide +kernel
theorem dX12_keyAt_55 : decode cX12_keyAt 55 = .ok (.iload_n 3, 1) := by decide +kernel
theorem dX12_keyAt_56 : decode cX12_keyAt 56 = .ok (.iadd, 1) := by decide +kernel
theorem dX12_keyAt_57 : decode cX12_keyAt 57 = .ok (.invokevirtual 104, 3) := by decide +kernel
theorem dX12_keyAt_60 : decode cX12_keyAt 60 = .ok (.if_icmp .ne 9, 3) := by decide +kernel
theorem dX12_keyAt_63 : decode cX12_keyAt 63 = .ok (.iinc 3 1, 3) := by decide +kernel
theorem dX12_keyAt_66 : decode cX12_keyAt 66 = .ok (.goto (-51), 3) := by decide +kernel
theorem dX12_keyAt_69 : decode cX12_keyAt 69 = .ok (.ldc 96, 2) := by decide +kernel
theorem dX12_keyAt_71 : decode cX12_keyAt 71 = .ok (.iload_n 2, 1) := by decide +kernel
theorem dX12_keyAt_72 : decode cX12_keyAt 72 = .ok (.iload_n 3, 1) := by decide +kernel
theorem dX12_keyAt_73 : decode cX12_keyAt 73 = .ok (.iadd, 1) := by decide +kernel
theorem dX12_keyAt_74 : decode cX12_keyAt 74 = .ok (.invokevirtual 104, 3) := by decide +kernel
theorem dX12_keyAt_77 : decode cX12_keyAt 77 = .ok (.bipush 32, 2) := by decide +kernel
theorem dX12_keyAt_79 : decode cX12_keyAt 79 = .ok (.if_icmp .ne 18, 3) := by decide +kernel
theorem dX12_keyAt_82 : decode cX12_keyAt 82 = .ok (.aload_n 0, 1) := by decide +kernel
theorem dX12_keyAt_83 : decode cX12_keyAt 83 = .ok (.getfield 108, 3) := by decide +kernel
theorem dX12_keyAt_86 : decode cX12_keyAt 86 = .ok (.iload_n 3, 1) := by decide +kernel
theorem dX12_keyAt_87 : decode cX12_keyAt 87 = .ok (.iadd, 1) := by decide +kernel
theorem dX12_keyAt_88 : decode cX12_keyAt 88 = .ok (.aload_n 0, 1) := by decide +kernel
theorem dX12_keyAt_89 : decode cX12_keyAt 89 = .ok (.getfield 111, 3) := by decide +kernel
theorem dX12_keyAt_92 : decode cX12_keyAt 92 = .ok (.if_icmp .ne 5, 3) := by decide +kernel
theorem dX12_keyAt_95 : decode cX12_keyAt 95 = .ok (.iload_n 1, 1) := by decide +kernel
theorem dX12_keyAt_96 : decode cX12_keyAt 96 = .ok (.ireturn, 1) := by decide +kernel
theorem dX12_keyAt_97 : decode cX12_keyAt 97 = .ok (.ldc 96, 2) := by decide +kernel
theorem dX12_keyAt_99 : decode cX12_keyAt 99 = .ok (.iload_n 2, 1) := by decide +kernel
theorem dX12_keyAt_100 : decode cX12_keyAt 100 = .ok (.invokevirtual 104, 3) := by decide +kernel
theorem dX12_keyAt_103 : decode cX12_keyAt 103 = .ok (.bipush 32, 2) := by decide +kernel
theorem dX12_keyAt_105 : decode cX12_keyAt 105 = .ok (.if_icmp .eq 9, 3) := by decide +kernel
theorem dX12_keyAt_108 : decode cX12_keyAt 108 = .ok (.iinc 2 1, 3) := by decide +kernel
theorem dX12_keyAt_111 : decode cX12_keyAt 111 = .ok (.goto (-14), 3) := by decide +kernel
theorem dX12_keyAt_114 : decode cX12_keyAt 114 = .ok (.iinc 2 1, 3) := by decide +kernel
theorem dX12_keyAt_117 : decode cX12_keyAt 117 = .ok (.iinc 1 1, 3) := by decide +kernel
theorem dX12_keyAt_120 : decode cX12_keyAt 120 = .ok (.goto (-116), 3) := by decide +kernel
theorem dX12_keyAt_123 : decode cX12_keyAt 123 = .ok (.bipush 22, 2) := by decide +kernel
theorem dX12_keyAt_125 : decode cX12_keyAt 125 = .ok (.ireturn, 1) := by decide +kernel
theorem dX12_nextToken_0 : decode cX12_nextToken 0 = .ok (.aload_n 0, 1) := by decide +kernel
theorem dX12_nextToken_1 : decode cX12_nextToken 1 = .ok (.aload_n 0, 1) := by decide +kernel
theorem dX12_nextToken_2 : decode cX12_nextToken 2 = .ok (.getfield 111, 3) := by decide +kernel
theorem dX12_nextToken_5 : decode cX12_nextToken 5 = .ok (.putfield 108, 3) := by decide +kernel
theorem dX12_nextToken_8 : decode cX12_nextToken 8 = .ok (.aload_n 0, 1) := by decide +kernel
theorem dX12_nextToken_9 : decode cX12_nextToken 9 = .ok (.aload_n 0, 1) := by decide +kernel
theorem dX12_nextToken_10 : decode cX12_nextToken 10 = .ok (.getfield 108, 3) := by decide +kernel
theorem dX12_nextToken_13 : decode cX12_nextToken 13 = .ok (.invokevirtual 114, 3) := by decide +kernel
theorem dX12_nextToken_16 : decode cX12_nextToken 16 = .ok (.bipush 10, 2) := by decide +kernel
theorem dX12_nextToken_18 : decode cX12_nextToken 18 = .ok (.if_icmp .eq 16, 3) := by decide +kernel
theorem dX12_nextToken_21 : decode cX12_nextToken 21 = .ok (.aload_n 0, 1) := by decide +kernel
theorem dX12_nextToken_22 : decode cX12_nextToken 22 = .ok (.aload_n 0, 1) := by decide +kernel
theorem dX12_nextToken_23 : decode cX12_nextToken 23 = .ok (.getfield 108, 3) := by decide +kernel
theorem dX12_nextToken_26 : decode cX12_nextToken 26 = .ok (.invokevirtual 114, 3) := by decide +kernel
theorem dX12_nextToken_29 : decode cX12_nextToken 29 = .ok (.bipush 32, 2) := by decide +kernel
theorem dX12_nextToken_31 : decode cX12_nextToken 31 = .ok (.if_icmp .ne 16, 3) := by decide +kernel
theorem dX12_nextToken_34 : decode cX12_nextToken 34 = .ok (.aload_n 0, 1) := by decide +kernel
theorem dX12_nextToken_35 : decode cX12_nextToken 35 = .ok (.dup, 1) := by decide +kernel
theorem dX12_nextToken_36 : decode cX12_nextToken 36 = .ok (.getfield 108, 3) := by decide +kernel
theorem dX12_nextToken_39 : decode cX12_nextToken 39 = .ok (.iconst 1, 1) := by decide +kernel
theorem dX12_nextToken_40 : decode cX12_nextToken 40 = .ok (.iadd, 1) := by decide +kernel
theorem dX12_nextToken_41 : decode cX12_nextToken 41 = .ok (.putfield 108, 3) := by decide +kernel
theorem dX12_nextToken_44 : decode cX12_nextToken 44 = .ok (.goto (-36), 3) := by decide +kernel
theorem dX12_nextToken_47 : decode cX12_nextToken 47 = .ok (.aload_n 0, 1) := by decide +kernel
theorem dX12_nextToken_48 : decode cX12_nextToken 48 = .ok (.aload_n 0, 1) := by decide +kernel
theorem dX12_nextToken_49 : decode cX12_nextToken 49 = .ok (.getfield 108, 3) := by decide +kernel
theorem dX12_nextToken_52 : decode cX12_nextToken 52 = .ok (.putfield 111, 3) := by decide +kernel
theorem dX12_nextToken_55 : decode cX12_nextToken 55 = .ok (.aload_n 0, 1) := by decide +kernel
theorem dX12_nextToken_56 : decode cX12_nextToken 56 = .ok (.getfield 108, 3) := by decide +kernel
theorem dX12_nextToken_59 : decode cX12_nextToken 59 = .ok (.aload_n 0, 1) := by decide +kernel
theorem dX12_nextToken_60 : decode cX12_nextToken 60 = .ok (.getfield 93, 3) := by decide +kernel
theorem dX12_nextToken_63 : decode cX12_nextToken 63 = .ok (.if_icmp .lt 12, 3) := by decide +kernel
theorem dX12_nextToken_66 : decode cX12_nextToken 66 = .ok (.aload_n 0, 1) := by decide +kernel
theorem dX12_nextToken_67 : decode cX12_nextToken 67 = .ok (.bipush 24, 2) := by decide +kernel
theorem dX12_nextToken_69 : decode cX12_nextToken 69 = .ok (.putfield 118, 3) := by decide +kernel
theorem dX12_nextToken_72 : decode cX12_nextToken 72 = .ok (.goto 222, 3) := by decide +kernel
theorem dX12_nextToken_75 : decode cX12_nextToken 75 = .ok (.aload_n 0, 1) := by decide +kernel
theorem dX12_nextToken_76 : decode cX12_nextToken 76 = .ok (.aload_n 0, 1) := by decide +kernel
theorem dX12_nextToken_77 : decode cX12_nextToken 77 = .ok (.getfield 108, 3) := by decide +kernel
theorem dX12_nextToken_80 : decode cX12_nextToken 80 = .ok (.invokevirtual 114, 3) := by decide +kernel
theorem dX12_nextToken_83 : decode cX12_nextToken 83 = .ok (.invokestatic 121, 3) := by decide +kernel
theorem dX12_nextToken_86 : decode cX12_nextToken 86 = .ok (.ifCond .eq 41, 3) := by decide +kernel
theorem dX12_nextToken_89 : decode cX12_nextToken 89 = .ok (.aload_n 0, 1) := by decide +kernel
theorem dX12_nextToken_90 : decode cX12_nextToken 90 = .ok (.aload_n 0, 1) := by decide +kernel
theorem dX12_nextToken_91 : decode cX12_nextToken 91 = .ok (.getfield 111, 3) := by decide +kernel
theorem dX12_nextToken_94 : decode cX12_nextToken 94 = .ok (.invokevirtual 114, 3) := by decide +kernel
theorem dX12_nextToken_97 : decode cX12_nextToken 97 = .ok (.invokestatic 121, 3) := by decide +kernel
theorem dX12_nextToken_100 : decode cX12_nextToken 100 = .ok (.ifCond .eq 16, 3) := by decide +kernel
theorem dX12_nextToken_103 : decode cX12_nextToken 103 = .ok (.aload_n 0, 1) := by decide +kernel
theorem dX12_nextToken_104 : decode cX12_nextToken 104 = .ok (.dup, 1) := by decide +kernel
theorem dX12_nextToken_105 : decode cX12_nextToken 105 = .ok (.getfield 111, 3) := by decide +kernel
theorem dX12_nextToken_108 : decode cX12_nextToken 108 = .ok (.iconst 1, 1) := by decide +kernel
theorem dX12_nextToken_109 : decode cX12_nextToken 109 = .ok (.iadd, 1) := by decide +kernel
theorem dX12_nextToken_110 : decode cX12_nextToken 110 = .ok (.putfield 111, 3) := by decide +kernel
theorem dX12_nextToken_113 : decode cX12_nextToken 113 = .ok (.goto (-24), 3) := by decide +kernel
theorem dX12_nextToken_116 : decode cX12_nextToken 116 = .ok (.aload_n 0, 1) := by decide +kernel
theorem dX12_nextToken_117 : decode cX12_nextToken 117 = .ok (.aload_n 0, 1) := by decide +kernel
theorem dX12_nextToken_118 : decode cX12_nextToken 118 = .ok (.invokevirtual 125, 3) := by decide +kernel
theorem dX12_nextToken_121 : decode cX12_nextToken 121 = .ok (.putfield 118, 3) := by decide +kernel
theorem dX12_nextToken_124 : decode cX12_nextToken 124 = .ok (.goto 170, 3) := by decide +kernel
theorem dX12_nextToken_127 : decode cX12_nextToken 127 = .ok (.aload_n 0, 1) := by decide +kernel
theorem dX12_nextToken_128 : decode cX12_nextToken 128 = .ok (.aload_n 0, 1) := by decide +kernel
theorem dX12_nextToken_129 : decode cX12_nextToken 129 = .ok (.getfield 108, 3) := by decide +kernel
theorem dX12_nextToken_132 : decode cX12_nextToken 132 = .ok (.invokevirtual 114, 3) := by decide +kernel
theorem dX12_nextToken_135 : decode cX12_nextToken 135 = .ok (.invokestatic 128, 3) := by decide +kernel
theorem dX12_nextToken_138 : decode cX12_nextToken 138 = .ok (.ifCond .eq 98, 3) := by decide +kernel
theorem dX12_nextToken_141 : decode cX12_nextToken 141 = .ok (.aload_n 0, 1) := by decide +kernel
theorem dX12_nextToken_142 : decode cX12_nextToken 142 = .ok (.iconst 0, 1) := by decide +kernel
theorem dX12_nextToken_143 : decode cX12_nextToken 143 = .ok (.putfield 131, 3) := by decide +kernel
theorem dX12_nextToken_146 : decode cX12_nextToken 146 = .ok (.aload_n 0, 1) := by decide +kernel
theorem dX12_nextToken_147 : decode cX12_nextToken 147 = .ok (.aload_n 0, 1) := by decide +kernel
theorem dX12_nextToken_148 : decode cX12_nextToken 148 = .ok (.getfield 111, 3) := by decide +kernel
theorem dX12_nextToken_151 : decode cX12_nextToken 151 = .ok (.invokevirtual 114, 3) := by decide +kernel
theorem dX12_nextToken_154 : decode cX12_nextToken 154 = .ok (.invokestatic 128, 3) := by decide +kernel
theorem dX12_nextToken_157 : decode cX12_nextToken 157 = .ok (.ifCond .eq 52, 3) := by decide +kernel
theorem dX12_nextToken_160 : decode cX12_nextToken 160 = .ok (.aload_n 0, 1) := by decide +kernel
theorem dX12_nextToken_161 : decode cX12_nextToken 161 = .ok (.getfield 111, 3) := by decide +kernel
theorem dX12_nextToken_164 : decode cX12_nextToken 164 = .ok (.aload_n 0, 1) := by decide +kernel
theorem dX12_nextToken_165 : decode cX12_nextToken 165 = .ok (.getfield 108, 3) := by decide +kernel
theorem dX12_nextToken_168 : decode cX12_nextToken 168 = .ok (.isub, 1) := by decide +kernel
theorem dX12_nextToken_169 : decode cX12_nextToken 169 = .ok (.iconst 3, 1) := by decide +kernel
theorem dX12_nextToken_170 : decode cX12_nextToken 170 = .ok (.if_icmp .ge 26, 3) := by decide +kernel
theorem dX12_nextToken_173 : decode cX12_nextToken 173 = .ok (.aload_n 0, 1) := by decide +kernel
theorem dX12_nextToken_174 : decode cX12_nextToken 174 = .ok (.bipush 10, 2) := by decide +kernel
theorem dX12_nextToken_176 : decode cX12_nextToken 176 = .ok (.aload_n 0, 1) := by decide +kernel
theorem dX12_nextToken_177 : decode cX12_nextToken 177 = .ok (.getfield 131, 3) := by decide +kernel
theorem dX12_nextToken_180 : decode cX12_nextToken 180 = .ok (.imul, 1) := by decide +kernel
theorem dX12_nextToken_181 : decode cX12_nextToken 181 = .ok (.aload_n 0, 1) := by decide +kernel
theorem dX12_nextToken_182 : decode cX12_nextToken 182 = .ok (.aload_n 0, 1) := by decide +kernel
theorem dX12_nextToken_183 : decode cX12_nextToken 183 = .ok (.getfield 111, 3) := by decide +kernel
theorem dX12_nextToken_186 : decode cX12_nextToken 186 = .ok (.invokevirtual 114, 3) := by decide +kernel
theorem dX12_nextToken_189 : decode cX12_nextToken 189 = .ok (.iadd, 1) := by decide +kernel
theorem dX12_nextToken_190 : decode cX12_nextToken 190 = .ok (.bipush 48, 2) := by decide +kernel
theorem dX12_nextToken_192 : decode cX12_nextToken 192 = .ok (.isub, 1) := by decide +kernel
theorem dX12_nextToken_193 : decode cX12_nextToken 193 = .ok (.putfield 131, 3) := by decide +kernel
theorem dX12_nextToken_196 : decode cX12_nextToken 196 = .ok (.aload_n 0, 1) := by decide +kernel
theorem dX12_nextToken_197 : decode cX12_nextToken 197 = .ok (.dup, 1) := by decide +kernel
theorem dX12_nextToken_198 : decode cX12_nextToken 198 = .ok (.getfield 111, 3) := by decide +kernel
theorem dX12_nextToken_201 : decode cX12_nextToken 201 = .ok (.iconst 1, 1) := by decide +kernel
theorem dX12_nextToken_202 : decode cX12_nextToken 202 = .ok (.iadd, 1) := by decide +kernel
theorem dX12_nextToken_203 : decode cX12_nextToken 203 = .ok (.putfield 111, 3) := by decide +kernel
theorem dX12_nextToken_206 : decode cX12_nextToken 206 = .ok (.goto (-60), 3) := by decide +kernel
theorem dX12_nextToken_209 : decode cX12_nextToken 209 = .ok (.aload_n 0, 1) := by decide +kernel
theorem dX12_nextToken_210 : decode cX12_nextToken 210 = .ok (.aload_n 0, 1) := by decide +kernel
theorem dX12_nextToken_211 : decode cX12_nextToken 211 = .ok (.getfield 111, 3) := by decide +kernel
theorem dX12_nextToken_214 : decode cX12_nextToken 214 = .ok (.aload_n 0, 1) := by decide +kernel
theorem dX12_nextToken_215 : decode cX12_nextToken 215 = .ok (.getfield 108, 3) := by decide +kernel
theorem dX12_nextToken_218 : decode cX12_nextToken 218 = .ok (.isub, 1) := by decide +kernel
theorem dX12_nextToken_219 : decode cX12_nextToken 219 = .ok (.iconst 3, 1) := by decide +kernel
theorem dX12_nextToken_220 : decode cX12_nextToken 220 = .ok (.if_icmp .le 8, 3) := by decide +kernel
theorem dX12_nextToken_223 : decode cX12_nextToken 223 = .ok (.bipush 25, 2) := by decide +kernel
theorem dX12_nextToken_225 : decode cX12_nextToken 225 = .ok (.goto 5, 3) := by decide +kernel
theorem dX12_nextToken_228 : decode cX12_nextToken 228 = .ok (.bipush 23, 2) := by decide +kernel
theorem dX12_nextToken_230 : decode cX12_nextToken 230 = .ok (.putfield 118, 3) := by decide +kernel
theorem dX12_nextToken_233 : decode cX12_nextToken 233 = .ok (.goto 61, 3) := by decide +kernel
theorem dX12_nextToken_236 : decode cX12_nextToken 236 = .ok (.aload_n 0, 1) := by decide +kernel
theorem dX12_nextToken_237 : decode cX12_nextToken 237 = .ok (.dup, 1) := by decide +kernel
theorem dX12_nextToken_238 : decode cX12_nextToken 238 = .ok (.getfield 111, 3) := by decide +kernel
theorem dX12_nextToken_241 : decode cX12_nextToken 241 = .ok (.iconst 1, 1) := by decide +kernel
theorem dX12_nextToken_242 : decode cX12_nextToken 242 = .ok (.iadd, 1) := by decide +kernel
theorem dX12_nextToken_243 : decode cX12_nextToken 243 = .ok (.putfield 111, 3) := by decide +kernel
theorem dX12_nextToken_246 : decode cX12_nextToken 246 = .ok (.aload_n 0, 1) := by decide +kernel
theorem dX12_nextToken_247 : decode cX12_nextToken 247 = .ok (.bipush 25, 2) := by decide +kernel
theorem dX12_nextToken_249 : decode cX12_nextToken 249 = .ok (.putfield 118, 3) := by decide +kernel
theorem dX12_nextToken_252 : decode cX12_nextToken 252 = .ok (.iconst 0, 1) := by decide +kernel
theorem dX12_nextToken_253 : decode cX12_nextToken 253 = .ok (.istore_n 1, 1) := by decide +kernel
theorem dX12_nextToken_254 : decode cX12_nextToken 254 = .ok (.iload_n 1, 1) := by decide +kernel
theorem dX12_nextToken_255 : decode cX12_nextToken 255 = .ok (.ldc 134, 2) := by decide +kernel
theorem dX12_nextToken_257 : decode cX12_nextToken 257 = .ok (.invokevirtual 98, 3) := by decide +kernel
theorem dX12_nextToken_260 : decode cX12_nextToken 260 = .ok (.if_icmp .ge 34, 3) := by decide +kernel
theorem dX12_nextToken_263 : decode cX12_nextToken 263 = .ok (.aload_n 0, 1) := by decide +kernel
theorem dX12_nextToken_264 : decode cX12_nextToken 264 = .ok (.aload_n 0, 1) := by decide +kernel
theorem dX12_nextToken_265 : decode cX12_nextToken 265 = .ok (.getfield 108, 3) := by decide +kernel
theorem dX12_nextToken_268 : decode cX12_nextToken 268 = .ok (.invokevirtual 114, 3) := by decide +kernel
theorem dX12_nextToken_271 : decode cX12_nextToken 271 = .ok (.ldc 134, 2) := by decide +kernel
theorem dX12_nextToken_273 : decode cX12_nextToken 273 = .ok (.iload_n 1, 1) := by decide +kernel
theorem dX12_nextToken_274 : decode cX12_nextToken 274 = .ok (.invokevirtual 104, 3) := by decide +kernel
theorem dX12_nextToken_277 : decode cX12_nextToken 277 = .ok (.if_icmp .ne 11, 3) := by decide +kernel
theorem dX12_nextToken_280 : decode cX12_nextToken 280 = .ok (.aload_n 0, 1) := by decide +kernel
theorem dX12_nextToken_281 : decode cX12_nextToken 281 = .ok (.bipush 30, 2) := by decide +kernel
theorem dX12_nextToken_283 : decode cX12_nextToken 283 = .ok (.iload_n 1, 1) := by decide +kernel
theorem dX12_nextToken_284 : decode cX12_nextToken 284 = .ok (.iadd, 1) := by decide +kernel
theorem dX12_nextToken_285 : decode cX12_nextToken 285 = .ok (.putfield 118, 3) := by decide +kernel
theorem dX12_nextToken_288 : decode cX12_nextToken 288 = .ok (.iinc 1 1, 3) := by decide +kernel
theorem dX12_nextToken_291 : decode cX12_nextToken 291 = .ok (.goto (-37), 3) := by decide +kernel
theorem dX12_nextToken_294 : decode cX12_nextToken 294 = .ok (.return_, 1) := by decide +kernel
theorem dX12_fails_0 : decode cX12_fails 0 = .ok (.aload_n 0, 1) := by decide +kernel
theorem dX12_fails_1 : decode cX12_fails 1 = .ok (.getfield 136, 3) := by decide +kernel
theorem dX12_fails_4 : decode cX12_fails 4 = .ok (.ifCond .eq 4, 3) := by decide +kernel
theorem dX12_fails_7 : decode cX12_fails 7 = .ok (.return_, 1) := by decide +kernel
theorem dX12_fails_8 : decode cX12_fails 8 = .ok (.aload_n 0, 1) := by decide +kernel
theorem dX12_fails_9 : decode cX12_fails 9 = .ok (.aload_n 0, 1) := by decide +kernel
theorem dX12_fails_10 : decode cX12_fails 10 = .ok (.getfield 118, 3) := by decide +kernel
theorem dX12_fails_13 : decode cX12_fails 13 = .ok (.bipush 25, 2) := by decide +kernel
theorem dX12_fails_15 : decode cX12_fails 15 = .ok (.if_icmp .ne 7, 3) := by decide +kernel
theorem dX12_fails_18 : decode cX12_fails 18 = .ok (.iconst 1, 1) := by decide +kernel
theorem dX12_fails_19 : decode cX12_fails 19 = .ok (.goto 4, 3) := by decide +kernel
theorem dX12_fails_22 : decode cX12_fails 22 = .ok (.iload_n 1, 1) := by decide +kernel
theorem dX12_fails_23 : decode cX12_fails 23 = .ok (.putfield 136, 3) := by decide +kernel
theorem dX12_fails_26 : decode cX12_fails 26 = .ok (.aload_n 0, 1) := by decide +kernel
theorem dX12_fails_27 : decode cX12_fails 27 = .ok (.aload_n 0, 1) := by decide +kernel
theorem dX12_fails_28 : decode cX12_fails 28 = .ok (.getfield 108, 3) := by decide +kernel
theorem dX12_fails_31 : decode cX12_fails 31 = .ok (.putfield 139, 3) := by decide +kernel
theorem dX12_fails_34 : decode cX12_fails 34 = .ok (.return_, 1) := by decide +kernel
theorem dX12_is_0 : decode cX12_is 0 = .ok (.aload_n 0, 1) := by decide +kernel
theorem dX12_is_1 : decode cX12_is 1 = .ok (.getfield 136, 3) := by decide +kernel
theorem dX12_is_4 : decode cX12_is 4 = .ok (.ifCond .ne 15, 3) := by decide +kernel
theorem dX12_is_7 : decode cX12_is 7 = .ok (.aload_n 0, 1) := by decide +kernel
theorem dX12_is_8 : decode cX12_is 8 = .ok (.getfield 118, 3) := by decide +kernel
theorem dX12_is_11 : decode cX12_is 11 = .ok (.iload_n 1, 1) := by decide +kernel
theorem dX12_is_12 : decode cX12_is 12 = .ok (.if_icmp .ne 7, 3) := by decide +kernel
theorem dX12_is_15 : decode cX12_is 15 = .ok (.iconst 1, 1) := by decide +kernel
theorem dX12_is_16 : decode cX12_is 16 = .ok (.goto 4, 3) := by decide +kernel
theorem dX12_is_19 : decode cX12_is 19 = .ok (.iconst 0, 1) := by decide +kernel
theorem dX12_is_20 : decode cX12_is 20 = .ok (.ireturn, 1) := by decide +kernel
theorem dX12_eats_0 : decode cX12_eats 0 = .ok (.aload_n 0, 1) := by decide +kernel
theorem dX12_eats_1 : decode cX12_eats 1 = .ok (.iload_n 1, 1) := by decide +kernel
theorem dX12_eats_2 : decode cX12_eats 2 = .ok (.invokevirtual 142, 3) := by decide +kernel
theorem dX12_eats_5 : decode cX12_eats 5 = .ok (.ifCond .ne 5, 3) := by decide +kernel
theorem dX12_eats_8 : decode cX12_eats 8 = .ok (.iconst 0, 1) := by decide +kernel
theorem dX12_eats_9 : decode cX12_eats 9 = .ok (.ireturn, 1) := by decide +kernel
theorem dX12_eats_10 : decode cX12_eats 10 = .ok (.aload_n 0, 1) := by decide +kernel
theorem dX12_eats_11 : decode cX12_eats 11 = .ok (.invokevirtual 145, 3) := by decide +kernel
theorem dX12_eats_14 : decode cX12_eats 14 = .ok (.iconst 1, 1) := by decide +kernel
theorem dX12_eats_15 : decode cX12_eats 15 = .ok (.ireturn, 1) := by decide +kernel
theorem dX12_takes_0 : decode cX12_takes 0 = .ok (.aload_n 0, 1) := by decide +kernel
theorem dX12_takes_1 : decode cX12_takes 1 = .ok (.bipush 23, 2) := by decide +kernel
theorem dX12_takes_3 : decode cX12_takes 3 = .ok (.invokevirtual 142, 3) := by decide +kernel
theorem dX12_takes_6 : decode cX12_takes 6 = .ok (.ifCond .ne 11, 3) := by decide +kernel
theorem dX12_takes_9 : decode cX12_takes 9 = .ok (.aload_n 0, 1) := by decide +kernel
theorem dX12_takes_10 : decode cX12_takes 10 = .ok (.iconst 2, 1) := by decide +kernel
theorem dX12_takes_11 : decode cX12_takes 11 = .ok (.invokevirtual 148, 3) := by decide +kernel
theorem dX12_takes_14 : decode cX12_takes 14 = .ok (.goto 23, 3) := by decide +kernel
theorem dX12_takes_17 : decode cX12_takes 17 = .ok (.aload_n 0, 1) := by decide +kernel
theorem dX12_takes_18 : decode cX12_takes 18 = .ok (.getfield 131, 3) := by decide +kernel
theorem dX12_takes_21 : decode cX12_takes 21 = .ok (.i2l, 1) := by decide +kernel
theorem dX12_takes_22 : decode cX12_takes 22 = .ok (.iload_n 1, 1) := by decide +kernel
theorem dX12_takes_23 : decode cX12_takes 23 = .ok (.i2l, 1) := by decide +kernel
theorem dX12_takes_24 : decode cX12_takes 24 = .ok (.iload_n 2, 1) := by decide +kernel
theorem dX12_takes_25 : decode cX12_takes 25 = .ok (.i2l, 1) := by decide +kernel
theorem dX12_takes_26 : decode cX12_takes 26 = .ok (.invokestatic 152, 3) := by decide +kernel
theorem dX12_takes_29 : decode cX12_takes 29 = .ok (.ifCond .ne 8, 3) := by decide +kernel
theorem dX12_takes_32 : decode cX12_takes 32 = .ok (.aload_n 0, 1) := by decide +kernel
theorem dX12_takes_33 : decode cX12_takes 33 = .ok (.iconst 3, 1) := by decide +kernel
theorem dX12_takes_34 : decode cX12_takes 34 = .ok (.invokevirtual 148, 3) := by decide +kernel
theorem dX12_takes_37 : decode cX12_takes 37 = .ok (.aload_n 0, 1) := by decide +kernel
theorem dX12_takes_38 : decode cX12_takes 38 = .ok (.getfield 131, 3) := by decide +kernel
theorem dX12_takes_41 : decode cX12_takes 41 = .ok (.istore_n 3, 1) := by decide +kernel
theorem dX12_takes_42 : decode cX12_takes 42 = .ok (.aload_n 0, 1) := by decide +kernel
theorem dX12_takes_43 : decode cX12_takes 43 = .ok (.getfield 136, 3) := by decide +kernel
theorem dX12_takes_46 : decode cX12_takes 46 = .ok (.ifCond .ne 7, 3) := by decide +kernel
theorem dX12_takes_49 : decode cX12_takes 49 = .ok (.aload_n 0, 1) := by decide +kernel
theorem dX12_takes_50 : decode cX12_takes 50 = .ok (.invokevirtual 145, 3) := by decide +kernel
theorem dX12_takes_53 : decode cX12_takes 53 = .ok (.iload_n 3, 1) := by decide +kernel
theorem dX12_takes_54 : decode cX12_takes 54 = .ok (.ireturn, 1) := by decide +kernel
theorem dX12_isIn_0 : decode cX12_isIn 0 = .ok (.lload_n 0, 1) := by decide +kernel
theorem dX12_isIn_1 : decode cX12_isIn 1 = .ok (.iload_n 2, 1) := by decide +kernel
theorem dX12_isIn_2 : decode cX12_isIn 2 = .ok (.lshr, 1) := by decide +kernel
theorem dX12_isIn_3 : decode cX12_isIn 3 = .ok (.lconst 1, 1) := by decide +kernel
theorem dX12_isIn_4 : decode cX12_isIn 4 = .ok (.land, 1) := by decide +kernel
theorem dX12_isIn_5 : decode cX12_isIn 5 = .ok (.lconst 1, 1) := by decide +kernel
theorem dX12_isIn_6 : decode cX12_isIn 6 = .ok (.lcmp, 1) := by decide +kernel
theorem dX12_isIn_7 : decode cX12_isIn 7 = .ok (.ifCond .ne 7, 3) := by decide +kernel
theorem dX12_isIn_10 : decode cX12_isIn 10 = .ok (.iconst 1, 1) := by decide +kernel
theorem dX12_isIn_11 : decode cX12_isIn 11 = .ok (.goto 4, 3) := by decide +kernel
theorem dX12_isIn_14 : decode cX12_isIn 14 = .ok (.iconst 0, 1) := by decide +kernel
theorem dX12_isIn_15 : decode cX12_isIn 15 = .ok (.ireturn, 1) := by decide +kernel
theorem dX12_wordOf_0 : decode cX12_wordOf 0 = .ok (.iload_n 1, 1) := by decide +kernel
theorem dX12_wordOf_1 : decode cX12_wordOf 1 = .ok (.i2l, 1) := by decide +kernel
theorem dX12_wordOf_2 : decode cX12_wordOf 2 = .ok (.ldc2_w 156, 3) := by decide +kernel
theorem dX12_wordOf_5 : decode cX12_wordOf 5 = .ok (.ldc2_w 158, 3) := by decide +kernel
theorem dX12_wordOf_8 : decode cX12_wordOf 8 = .ok (.invokestatic 152, 3) := by decide +kernel
theorem dX12_wordOf_11 : decode cX12_wordOf 11 = .ok (.ifCond .eq 10, 3) := by decide +kernel
theorem dX12_wordOf_14 : decode cX12_wordOf 14 = .ok (.iconst 3, 1) := by decide +kernel
theorem dX12_wordOf_15 : decode cX12_wordOf 15 = .ok (.iload_n 1, 1) := by decide +kernel
theorem dX12_wordOf_16 : decode cX12_wordOf 16 = .ok (.iadd, 1) := by decide +kernel
theorem dX12_wordOf_17 : decode cX12_wordOf 17 = .ok (.bipush 12, 2) := by decide +kernel
theorem dX12_wordOf_19 : decode cX12_wordOf 19 = .ok (.isub, 1) := by decide +kernel
theorem dX12_wordOf_20 : decode cX12_wordOf 20 = .ok (.ireturn, 1) := by decide +kernel
theorem dX12_wordOf_21 : decode cX12_wordOf 21 = .ok (.iload_n 1, 1) := by decide +kernel
theorem dX12_wordOf_22 : decode cX12_wordOf 22 = .ok (.bipush 11, 2) := by decide +kernel
theorem dX12_wordOf_24 : decode cX12_wordOf 24 = .ok (.if_icmp .ne 7, 3) := by decide +kernel
theorem dX12_wordOf_27 : decode cX12_wordOf 27 = .ok (.iconst 0, 1) := by decide +kernel
theorem dX12_wordOf_28 : decode cX12_wordOf 28 = .ok (.goto 23, 3) := by decide +kernel
theorem dX12_wordOf_31 : decode cX12_wordOf 31 = .ok (.iload_n 1, 1) := by decide +kernel
theorem dX12_wordOf_32 : decode cX12_wordOf 32 = .ok (.bipush 7, 2) := by decide +kernel
theorem dX12_wordOf_34 : decode cX12_wordOf 34 = .ok (.if_icmp .ne 7, 3) := by decide +kernel
theorem dX12_wordOf_37 : decode cX12_wordOf 37 = .ok (.iconst 1, 1) := by decide +kernel
theorem dX12_wordOf_38 : decode cX12_wordOf 38 = .ok (.goto 13, 3) := by decide +kernel
theorem dX12_wordOf_41 : decode cX12_wordOf 41 = .ok (.iload_n 1, 1) := by decide +kernel
theorem dX12_wordOf_42 : decode cX12_wordOf 42 = .ok (.iconst 1, 1) := by decide +kernel
theorem dX12_wordOf_43 : decode cX12_wordOf 43 = .ok (.if_icmp .ne 7, 3) := by decide +kernel
theorem dX12_wordOf_46 : decode cX12_wordOf 46 = .ok (.iconst 2, 1) := by decide +kernel
theorem dX12_wordOf_47 : decode cX12_wordOf 47 = .ok (.goto 4, 3) := by decide +kernel
theorem dX12_wordOf_50 : decode cX12_wordOf 50 = .ok (.iconst (-1), 1) := by decide +kernel
theorem dX12_wordOf_51 : decode cX12_wordOf 51 = .ok (.ireturn, 1) := by decide +kernel
theorem dX12_codes_0 : decode cX12_codes 0 = .ok (.aload_n 0, 1) := by decide +kernel
theorem dX12_codes_1 : decode cX12_codes 1 = .ok (.getfield 136, 3) := by decide +kernel
theorem dX12_codes_4 : decode cX12_codes 4 = .ok (.ifCond .eq 4, 3) := by decide +kernel
theorem dX12_codes_7 : decode cX12_codes 7 = .ok (.return_, 1) := by decide +kernel
theorem dX12_codes_8 : decode cX12_codes 8 = .ok (.aload_n 0, 1) := by decide +kernel
theorem dX12_codes_9 : decode cX12_codes 9 = .ok (.getfield 24, 3) := by decide +kernel
theorem dX12_codes_12 : decode cX12_codes 12 = .ok (.sipush 264, 3) := by decide +kernel
theorem dX12_codes_15 : decode cX12_codes 15 = .ok (.aload_n 0, 1) := by decide +kernel
theorem dX12_codes_16 : decode cX12_codes 16 = .ok (.getfield 24, 3) := by decide +kernel
theorem dX12_codes_19 : decode cX12_codes 19 = .ok (.sipush 263, 3) := by decide +kernel
theorem dX12_codes_22 : decode cX12_codes 22 = .ok (.iaload, 1) := by decide +kernel
theorem dX12_codes_23 : decode cX12_codes 23 = .ok (.iadd, 1) := by decide +kernel
theorem dX12_codes_24 : decode cX12_codes 24 = .ok (.iload_n 1, 1) := by decide +kernel
theorem dX12_codes_25 : decode cX12_codes 25 = .ok (.iastore, 1) := by decide +kernel
theorem dX12_codes_26 : decode cX12_codes 26 = .ok (.aload_n 0, 1) := by decide +kernel
theorem dX12_codes_27 : decode cX12_codes 27 = .ok (.getfield 24, 3) := by decide +kernel
theorem dX12_codes_30 : decode cX12_codes 30 = .ok (.sipush 263, 3) := by decide +kernel
theorem dX12_codes_33 : decode cX12_codes 33 = .ok (.dup2, 1) := by decide +kernel
theorem dX12_codes_34 : decode cX12_codes 34 = .ok (.iaload, 1) := by decide +kernel
theorem dX12_codes_35 : decode cX12_codes 35 = .ok (.iconst 1, 1) := by decide +kernel
theorem dX12_codes_36 : decode cX12_codes 36 = .ok (.iadd, 1) := by decide +kernel
theorem dX12_codes_37 : decode cX12_codes 37 = .ok (.iastore, 1) := by decide +kernel
theorem dX12_codes_38 : decode cX12_codes 38 = .ok (.return_, 1) := by decide +kernel
theorem dX12_goesIn_0 : decode cX12_goesIn 0 = .ok (.iload_n 1, 1) := by decide +kernel
theorem dX12_goesIn_1 : decode cX12_goesIn 1 = .ok (.bipush 6, 2) := by decide +kernel
theorem dX12_goesIn_3 : decode cX12_goesIn 3 = .ok (.if_icmp .ne 8, 3) := by decide +kernel
theorem dX12_goesIn_6 : decode cX12_goesIn 6 = .ok (.aload_n 0, 1) := by decide +kernel
theorem dX12_goesIn_7 : decode cX12_goesIn 7 = .ok (.iconst 4, 1) := by decide +kernel
theorem dX12_goesIn_8 : decode cX12_goesIn 8 = .ok (.invokevirtual 148, 3) := by decide +kernel
theorem dX12_goesIn_11 : decode cX12_goesIn 11 = .ok (.aload_n 0, 1) := by decide +kernel
theorem dX12_goesIn_12 : decode cX12_goesIn 12 = .ok (.getfield 136, 3) := by decide +kernel
theorem dX12_goesIn_15 : decode cX12_goesIn 15 = .ok (.ifCond .ne 7, 3) := by decide +kernel
theorem dX12_goesIn_18 : decode cX12_goesIn 18 = .ok (.aload_n 0, 1) := by decide +kernel
theorem dX12_goesIn_19 : decode cX12_goesIn 19 = .ok (.invokevirtual 145, 3) := by decide +kernel
theorem dX12_goesIn_22 : decode cX12_goesIn 22 = .ok (.aload_n 0, 1) := by decide +kernel
theorem dX12_goesIn_23 : decode cX12_goesIn 23 = .ok (.getfield 136, 3) := by decide +kernel
theorem dX12_goesIn_26 : decode cX12_goesIn 26 = .ok (.ifCond .ne 7, 3) := by decide +kernel
theorem dX12_goesIn_29 : decode cX12_goesIn 29 = .ok (.iconst 1, 1) := by decide +kernel
theorem dX12_goesIn_30 : decode cX12_goesIn 30 = .ok (.goto 4, 3) := by decide +kernel
theorem dX12_goesIn_33 : decode cX12_goesIn 33 = .ok (.iconst 0, 1) := by decide +kernel
theorem dX12_goesIn_34 : decode cX12_goesIn 34 = .ok (.ireturn, 1) := by decide +kernel
theorem dX12_readAtom_0 : decode cX12_readAtom 0 = .ok (.aload_n 0, 1) := by decide +kernel
theorem dX12_readAtom_1 : decode cX12_readAtom 1 = .ok (.bipush 23, 2) := by decide +kernel
theorem dX12_readAtom_3 : decode cX12_readAtom 3 = .ok (.invokevirtual 142, 3) := by decide +kernel
theorem dX12_readAtom_6 : decode cX12_readAtom 6 = .ok (.ifCond .eq 18, 3) := by decide +kernel
theorem dX12_readAtom_9 : decode cX12_readAtom 9 = .ok (.aload_n 0, 1) := by decide +kernel
theorem dX12_readAtom_10 : decode cX12_readAtom 10 = .ok (.aload_n 0, 1) := by decide +kernel
theorem dX12_readAtom_11 : decode cX12_readAtom 11 = .ok (.getfield 131, 3) := by decide +kernel
theorem dX12_readAtom_14 : decode cX12_readAtom 14 = .ok (.invokevirtual 160, 3) := by decide +kernel
theorem dX12_readAtom_17 : decode cX12_readAtom 17 = .ok (.aload_n 0, 1) := by decide +kernel
theorem dX12_readAtom_18 : decode cX12_readAtom 18 = .ok (.invokevirtual 145, 3) := by decide +kernel
theorem dX12_readAtom_21 : decode cX12_readAtom 21 = .ok (.goto 92, 3) := by decide +kernel
theorem dX12_readAtom_24 : decode cX12_readAtom 24 = .ok (.aload_n 0, 1) := by decide +kernel
theorem dX12_readAtom_25 : decode cX12_readAtom 25 = .ok (.getfield 136, 3) := by decide +kernel
theorem dX12_readAtom_28 : decode cX12_readAtom 28 = .ok (.ifCond .ne 38, 3) := by decide +kernel
theorem dX12_readAtom_31 : decode cX12_readAtom 31 = .ok (.aload_n 0, 1) := by decide +kernel
theorem dX12_readAtom_32 : decode cX12_readAtom 32 = .ok (.aload_n 0, 1) := by decide +kernel
theorem dX12_readAtom_33 : decode cX12_readAtom 33 = .ok (.getfield 118, 3) := by decide +kernel
theorem dX12_readAtom_36 : decode cX12_readAtom 36 = .ok (.invokevirtual 163, 3) := by decide +kernel
theorem dX12_readAtom_39 : decode cX12_readAtom 39 = .ok (.iconst (-1), 1) := by decide +kernel
theorem dX12_readAtom_40 : decode cX12_readAtom 40 = .ok (.if_icmp .eq 26, 3) := by decide +kernel
theorem dX12_readAtom_43 : decode cX12_readAtom 43 = .ok (.aload_n 0, 1) := by decide +kernel
theorem dX12_readAtom_44 : decode cX12_readAtom 44 = .ok (.sipush 1000, 3) := by decide +kernel
theorem dX12_readAtom_47 : decode cX12_readAtom 47 = .ok (.aload_n 0, 1) := by decide +kernel
theorem dX12_readAtom_48 : decode cX12_readAtom 48 = .ok (.aload_n 0, 1) := by decide +kernel
theorem dX12_readAtom_49 : decode cX12_readAtom 49 = .ok (.getfield 118, 3) := by decide +kernel
theorem dX12_readAtom_52 : decode cX12_readAtom 52 = .ok (.invokevirtual 163, 3) := by decide +kernel
theorem dX12_readAtom_55 : decode cX12_readAtom 55 = .ok (.iadd, 1) := by decide +kernel
theorem dX12_readAtom_56 : decode cX12_readAtom 56 = .ok (.invokevirtual 160, 3) := by decide +kernel
theorem dX12_readAtom_59 : decode cX12_readAtom 59 = .ok (.aload_n 0, 1) := by decide +kernel
theorem dX12_readAtom_60 : decode cX12_readAtom 60 = .ok (.invokevirtual 145, 3) := by decide +kernel
theorem dX12_readAtom_63 : decode cX12_readAtom 63 = .ok (.goto 50, 3) := by decide +kernel
theorem dX12_readAtom_66 : decode cX12_readAtom 66 = .ok (.aload_n 0, 1) := by decide +kernel
theorem dX12_readAtom_67 : decode cX12_readAtom 67 = .ok (.bipush 35, 2) := by decide +kernel
theorem dX12_readAtom_69 : decode cX12_readAtom 69 = .ok (.invokevirtual 142, 3) := by decide +kernel
theorem dX12_readAtom_72 : decode cX12_readAtom 72 = .ok (.ifCond .eq 36, 3) := by decide +kernel
theorem dX12_readAtom_75 : decode cX12_readAtom 75 = .ok (.aload_n 0, 1) := by decide +kernel
theorem dX12_readAtom_76 : decode cX12_readAtom 76 = .ok (.iload_n 1, 1) := by decide +kernel
theorem dX12_readAtom_77 : decode cX12_readAtom 77 = .ok (.invokevirtual 166, 3) := by decide +kernel
theorem dX12_readAtom_80 : decode cX12_readAtom 80 = .ok (.ifCond .ne 4, 3) := by decide +kernel
theorem dX12_readAtom_83 : decode cX12_readAtom 83 = .ok (.return_, 1) := by decide +kernel
theorem dX12_readAtom_84 : decode cX12_readAtom 84 = .ok (.aload_n 0, 1) := by decide +kernel
theorem dX12_readAtom_85 : decode cX12_readAtom 85 = .ok (.iload_n 1, 1) := by decide +kernel
theorem dX12_readAtom_86 : decode cX12_readAtom 86 = .ok (.iconst 1, 1) := by decide +kernel
theorem dX12_readAtom_87 : decode cX12_readAtom 87 = .ok (.iadd, 1) := by decide +kernel
theorem dX12_readAtom_88 : decode cX12_readAtom 88 = .ok (.invokevirtual 169, 3) := by decide +kernel
theorem dX12_readAtom_91 : decode cX12_readAtom 91 = .ok (.aload_n 0, 1) := by decide +kernel
theorem dX12_readAtom_92 : decode cX12_readAtom 92 = .ok (.bipush 36, 2) := by decide +kernel
theorem dX12_readAtom_94 : decode cX12_readAtom 94 = .ok (.invokevirtual 172, 3) := by decide +kernel
theorem dX12_readAtom_97 : decode cX12_readAtom 97 = .ok (.ifCond .ne 16, 3) := by decide +kernel
theorem dX12_readAtom_100 : decode cX12_readAtom 100 = .ok (.aload_n 0, 1) := by decide +kernel
theorem dX12_readAtom_101 : decode cX12_readAtom 101 = .ok (.iconst 2, 1) := by decide +kernel
theorem dX12_readAtom_102 : decode cX12_readAtom 102 = .ok (.invokevirtual 148, 3) := by decide +kernel
theorem dX12_readAtom_105 : decode cX12_readAtom 105 = .ok (.goto 8, 3) := by decide +kernel
theorem dX12_readAtom_108 : decode cX12_readAtom 108 = .ok (.aload_n 0, 1) := by decide +kernel
theorem dX12_readAtom_109 : decode cX12_readAtom 109 = .ok (.iconst 2, 1) := by decide +kernel
theorem dX12_readAtom_110 : decode cX12_readAtom 110 = .ok (.invokevirtual 148, 3) := by decide +kernel
theorem dX12_readAtom_113 : decode cX12_readAtom 113 = .ok (.return_, 1) := by decide +kernel
theorem dX12_readTerm_0 : decode cX12_readTerm 0 = .ok (.aload_n 0, 1) := by decide +kernel
theorem dX12_readTerm_1 : decode cX12_readTerm 1 = .ok (.iload_n 1, 1) := by decide +kernel
theorem dX12_readTerm_2 : decode cX12_readTerm 2 = .ok (.invokevirtual 175, 3) := by decide +kernel
theorem dX12_readTerm_5 : decode cX12_readTerm 5 = .ok (.aload_n 0, 1) := by decide +kernel
theorem dX12_readTerm_6 : decode cX12_readTerm 6 = .ok (.bipush 34, 2) := by decide +kernel
theorem dX12_readTerm_8 : decode cX12_readTerm 8 = .ok (.invokevirtual 172, 3) := by decide +kernel
theorem dX12_readTerm_11 : decode cX12_readTerm 11 = .ok (.ifCond .eq 18, 3) := by decide +kernel
theorem dX12_readTerm_14 : decode cX12_readTerm 14 = .ok (.aload_n 0, 1) := by decide +kernel
theorem dX12_readTerm_15 : decode cX12_readTerm 15 = .ok (.iload_n 1, 1) := by decide +kernel
theorem dX12_readTerm_16 : decode cX12_readTerm 16 = .ok (.invokevirtual 175, 3) := by decide +kernel
theorem dX12_readTerm_19 : decode cX12_readTerm 19 = .ok (.aload_n 0, 1) := by decide +kernel
theorem dX12_readTerm_20 : decode cX12_readTerm 20 = .ok (.sipush 3002, 3) := by decide +kernel
theorem dX12_readTerm_23 : decode cX12_readTerm 23 = .ok (.invokevirtual 160, 3) := by decide +kernel
theorem dX12_readTerm_26 : decode cX12_readTerm 26 = .ok (.goto (-21), 3) := by decide +kernel
theorem dX12_readTerm_29 : decode cX12_readTerm 29 = .ok (.return_, 1) := by decide +kernel
theorem dX12_readSum_0 : decode cX12_readSum 0 = .ok (.aload_n 0, 1) := by decide +kernel
theorem dX12_readSum_1 : decode cX12_readSum 1 = .ok (.iload_n 1, 1) := by decide +kernel
theorem dX12_readSum_2 : decode cX12_readSum 2 = .ok (.invokevirtual 178, 3) := by decide +kernel
theorem dX12_readSum_5 : decode cX12_readSum 5 = .ok (.aload_n 0, 1) := by decide +kernel
theorem dX12_readSum_6 : decode cX12_readSum 6 = .ok (.bipush 32, 2) := by decide +kernel
theorem dX12_readSum_8 : decode cX12_readSum 8 = .ok (.invokevirtual 142, 3) := by decide +kernel
theorem dX12_readSum_11 : decode cX12_readSum 11 = .ok (.ifCond .ne 12, 3) := by decide +kernel
theorem dX12_readSum_14 : decode cX12_readSum 14 = .ok (.aload_n 0, 1) := by decide +kernel
theorem dX12_readSum_15 : decode cX12_readSum 15 = .ok (.bipush 33, 2) := by decide +kernel
theorem dX12_readSum_17 : decode cX12_readSum 17 = .ok (.invokevirtual 142, 3) := by decide +kernel
theorem dX12_readSum_20 : decode cX12_readSum 20 = .ok (.ifCond .eq 39, 3) := by decide +kernel
theorem dX12_readSum_23 : decode cX12_readSum 23 = .ok (.aload_n 0, 1) := by decide +kernel
theorem dX12_readSum_24 : decode cX12_readSum 24 = .ok (.getfield 118, 3) := by decide +kernel
theorem dX12_readSum_27 : decode cX12_readSum 27 = .ok (.bipush 32, 2) := by decide +kernel
theorem dX12_readSum_29 : decode cX12_readSum 29 = .ok (.if_icmp .ne 9, 3) := by decide +kernel
theorem dX12_readSum_32 : decode cX12_readSum 32 = .ok (.sipush 3000, 3) := by decide +kernel
theorem dX12_readSum_35 : decode cX12_readSum 35 = .ok (.goto 6, 3) := by decide +kernel
theorem dX12_readSum_38 : decode cX12_readSum 38 = .ok (.sipush 3001, 3) := by decide +kernel
theorem dX12_readSum_41 : decode cX12_readSum 41 = .ok (.istore_n 2, 1) := by decide +kernel
theorem dX12_readSum_42 : decode cX12_readSum 42 = .ok (.aload_n 0, 1) := by decide +kernel
theorem dX12_readSum_43 : decode cX12_readSum 43 = .ok (.invokevirtual 145, 3) := by decide +kernel
theorem dX12_readSum_46 : decode cX12_readSum 46 = .ok (.aload_n 0, 1) := by decide +kernel
theorem dX12_readSum_47 : decode cX12_readSum 47 = .ok (.iload_n 1, 1) := by decide +kernel
theorem dX12_readSum_48 : decode cX12_readSum 48 = .ok (.invokevirtual 178, 3) := by decide +kernel
theorem dX12_readSum_51 : decode cX12_readSum 51 = .ok (.aload_n 0, 1) := by decide +kernel
theorem dX12_readSum_52 : decode cX12_readSum 52 = .ok (.iload_n 2, 1) := by decide +kernel
theorem dX12_readSum_53 : decode cX12_readSum 53 = .ok (.invokevirtual 160, 3) := by decide +kernel
theorem dX12_readSum_56 : decode cX12_readSum 56 = .ok (.goto (-51), 3) := by decide +kernel
theorem dX12_readSum_59 : decode cX12_readSum 59 = .ok (.return_, 1) := by decide +kernel
theorem dX12_readUnit_0 : decode cX12_readUnit 0 = .ok (.aload_n 0, 1) := by decide +kernel
theorem dX12_readUnit_1 : decode cX12_readUnit 1 = .ok (.bipush 19, 2) := by decide +kernel
theorem dX12_readUnit_3 : decode cX12_readUnit 3 = .ok (.invokevirtual 142, 3) := by decide +kernel
theorem dX12_readUnit_6 : decode cX12_readUnit 6 = .ok (.ifCond .eq 27, 3) := by decide +kernel
theorem dX12_readUnit_9 : decode cX12_readUnit 9 = .ok (.aload_n 0, 1) := by decide +kernel
theorem dX12_readUnit_10 : decode cX12_readUnit 10 = .ok (.iload_n 1, 1) := by decide +kernel
theorem dX12_readUnit_11 : decode cX12_readUnit 11 = .ok (.invokevirtual 166, 3) := by decide +kernel
theorem dX12_readUnit_14 : decode cX12_readUnit 14 = .ok (.ifCond .ne 4, 3) := by decide +kernel
theorem dX12_readUnit_17 : decode cX12_readUnit 17 = .ok (.return_, 1) := by decide +kernel
theorem dX12_readUnit_18 : decode cX12_readUnit 18 = .ok (.aload_n 0, 1) := by decide +kernel
theorem dX12_readUnit_19 : decode cX12_readUnit 19 = .ok (.iload_n 1, 1) := by decide +kernel
theorem dX12_readUnit_20 : decode cX12_readUnit 20 = .ok (.iconst 1, 1) := by decide +kernel
theorem dX12_readUnit_21 : decode cX12_readUnit 21 = .ok (.iadd, 1) := by decide +kernel
theorem dX12_readUnit_22 : decode cX12_readUnit 22 = .ok (.invokevirtual 181, 3) := by decide +kernel
theorem dX12_readUnit_25 : decode cX12_readUnit 25 = .ok (.aload_n 0, 1) := by decide +kernel
theorem dX12_readUnit_26 : decode cX12_readUnit 26 = .ok (.sipush 3006, 3) := by decide +kernel
theorem dX12_readUnit_29 : decode cX12_readUnit 29 = .ok (.invokevirtual 160, 3) := by decide +kernel
theorem dX12_readUnit_32 : decode cX12_readUnit 32 = .ok (.return_, 1) := by decide +kernel
theorem dX12_readUnit_33 : decode cX12_readUnit 33 = .ok (.aload_n 0, 1) := by decide +kernel
theorem dX12_readUnit_34 : decode cX12_readUnit 34 = .ok (.bipush 37, 2) := by decide +kernel
theorem dX12_readUnit_36 : decode cX12_readUnit 36 = .ok (.invokevirtual 142, 3) := by decide +kernel
theorem dX12_readUnit_39 : decode cX12_readUnit 39 = .ok (.ifCond .eq 34, 3) := by decide +kernel
theorem dX12_readUnit_42 : decode cX12_readUnit 42 = .ok (.aload_n 0, 1) := by decide +kernel
theorem dX12_readUnit_43 : decode cX12_readUnit 43 = .ok (.iload_n 1, 1) := by decide +kernel
theorem dX12_readUnit_44 : decode cX12_readUnit 44 = .ok (.invokevirtual 166, 3) := by decide +kernel
theorem dX12_readUnit_47 : decode cX12_readUnit 47 = .ok (.ifCond .ne 4, 3) := by decide +kernel
theorem dX12_readUnit_50 : decode cX12_readUnit 50 = .ok (.return_, 1) := by decide +kernel
theorem dX12_readUnit_51 : decode cX12_readUnit 51 = .ok (.aload_n 0, 1) := by decide +kernel
theorem dX12_readUnit_52 : decode cX12_readUnit 52 = .ok (.iload_n 1, 1) := by decide +kernel
theorem dX12_readUnit_53 : decode cX12_readUnit 53 = .ok (.iconst 1, 1) := by decide +kernel
theorem dX12_readUnit_54 : decode cX12_readUnit 54 = .ok (.iadd, 1) := by decide +kernel
theorem dX12_readUnit_55 : decode cX12_readUnit 55 = .ok (.invokevirtual 184, 3) := by decide +kernel
theorem dX12_readUnit_58 : decode cX12_readUnit 58 = .ok (.aload_n 0, 1) := by decide +kernel
theorem dX12_readUnit_59 : decode cX12_readUnit 59 = .ok (.bipush 38, 2) := by decide +kernel
theorem dX12_readUnit_61 : decode cX12_readUnit 61 = .ok (.invokevirtual 172, 3) := by decide +kernel
theorem dX12_readUnit_64 : decode cX12_readUnit 64 = .ok (.ifCond .ne 8, 3) := by decide +kernel
theorem dX12_readUnit_67 : decode cX12_readUnit 67 = .ok (.aload_n 0, 1) := by decide +kernel
theorem dX12_readUnit_68 : decode cX12_readUnit 68 = .ok (.iconst 2, 1) := by decide +kernel
theorem dX12_readUnit_69 : decode cX12_readUnit 69 = .ok (.invokevirtual 148, 3) := by decide +kernel
theorem dX12_readUnit_72 : decode cX12_readUnit 72 = .ok (.return_, 1) := by decide +kernel
theorem dX12_readUnit_73 : decode cX12_readUnit 73 = .ok (.aload_n 0, 1) := by decide +kernel
theorem dX12_readUnit_74 : decode cX12_readUnit 74 = .ok (.iload_n 1, 1) := by decide +kernel
theorem dX12_readUnit_75 : decode cX12_readUnit 75 = .ok (.invokevirtual 169, 3) := by decide +kernel
theorem dX12_readUnit_78 : decode cX12_readUnit 78 = .ok (.aload_n 0, 1) := by decide +kernel
theorem dX12_readUnit_79 : decode cX12_readUnit 79 = .ok (.bipush 39, 2) := by decide +kernel
theorem dX12_readUnit_81 : decode cX12_readUnit 81 = .ok (.invokevirtual 142, 3) := by decide +kernel
theorem dX12_readUnit_84 : decode cX12_readUnit 84 = .ok (.ifCond .eq 9, 3) := by decide +kernel
theorem dX12_readUnit_87 : decode cX12_readUnit 87 = .ok (.sipush 3003, 3) := by decide +kernel
theorem dX12_readUnit_90 : decode cX12_readUnit 90 = .ok (.goto 21, 3) := by decide +kernel
theorem dX12_readUnit_93 : decode cX12_readUnit 93 = .ok (.aload_n 0, 1) := by decide +kernel
theorem dX12_readUnit_94 : decode cX12_readUnit 94 = .ok (.bipush 40, 2) := by decide +kernel
theorem dX12_readUnit_96 : decode cX12_readUnit 96 = .ok (.invokevirtual 142, 3) := by decide +kernel
theorem dX12_readUnit_99 : decode cX12_readUnit 99 = .ok (.ifCond .eq 9, 3) := by decide +kernel
theorem dX12_readUnit_102 : decode cX12_readUnit 102 = .ok (.sipush 3004, 3) := by decide +kernel
theorem dX12_readUnit_105 : decode cX12_readUnit 105 = .ok (.goto 6, 3) := by decide +kernel
theorem dX12_readUnit_108 : decode cX12_readUnit 108 = .ok (.sipush 3005, 3) := by decide +kernel
theorem dX12_readUnit_111 : decode cX12_readUnit 111 = .ok (.istore_n 2, 1) := by decide +kernel
theorem dX12_readUnit_112 : decode cX12_readUnit 112 = .ok (.aload_n 0, 1) := by decide +kernel
theorem dX12_readUnit_113 : decode cX12_readUnit 113 = .ok (.bipush 39, 2) := by decide +kernel
theorem dX12_readUnit_115 : decode cX12_readUnit 115 = .ok (.invokevirtual 142, 3) := by decide +kernel
theorem dX12_readUnit_118 : decode cX12_readUnit 118 = .ok (.ifCond .ne 21, 3) := by decide +kernel
theorem dX12_readUnit_121 : decode cX12_readUnit 121 = .ok (.aload_n 0, 1) := by decide +kernel
theorem dX12_readUnit_122 : decode cX12_readUnit 122 = .ok (.bipush 40, 2) := by decide +kernel
theorem dX12_readUnit_124 : decode cX12_readUnit 124 = .ok (.invokevirtual 142, 3) := by decide +kernel
theorem dX12_readUnit_127 : decode cX12_readUnit 127 = .ok (.ifCond .ne 12, 3) := by decide +kernel
theorem dX12_readUnit_130 : decode cX12_readUnit 130 = .ok (.aload_n 0, 1) := by decide +kernel
theorem dX12_readUnit_131 : decode cX12_readUnit 131 = .ok (.bipush 41, 2) := by decide +kernel
theorem dX12_readUnit_133 : decode cX12_readUnit 133 = .ok (.invokevirtual 142, 3) := by decide +kernel
theorem dX12_readUnit_136 : decode cX12_readUnit 136 = .ok (.ifCond .eq 10, 3) := by decide +kernel
theorem dX12_readUnit_139 : decode cX12_readUnit 139 = .ok (.aload_n 0, 1) := by decide +kernel
theorem dX12_readUnit_140 : decode cX12_readUnit 140 = .ok (.invokevirtual 145, 3) := by decide +kernel
theorem dX12_readUnit_143 : decode cX12_readUnit 143 = .ok (.goto 8, 3) := by decide +kernel
theorem dX12_readUnit_146 : decode cX12_readUnit 146 = .ok (.aload_n 0, 1) := by decide +kernel
theorem dX12_readUnit_147 : decode cX12_readUnit 147 = .ok (.iconst 2, 1) := by decide +kernel
theorem dX12_readUnit_148 : decode cX12_readUnit 148 = .ok (.invokevirtual 148, 3) := by decide +kernel
theorem dX12_readUnit_151 : decode cX12_readUnit 151 = .ok (.aload_n 0, 1) := by decide +kernel
theorem dX12_readUnit_152 : decode cX12_readUnit 152 = .ok (.iload_n 1, 1) := by decide +kernel
theorem dX12_readUnit_153 : decode cX12_readUnit 153 = .ok (.invokevirtual 169, 3) := by decide +kernel
theorem dX12_readUnit_156 : decode cX12_readUnit 156 = .ok (.aload_n 0, 1) := by decide +kernel
theorem dX12_readUnit_157 : decode cX12_readUnit 157 = .ok (.iload_n 2, 1) := by decide +kernel
theorem dX12_readUnit_158 : decode cX12_readUnit 158 = .ok (.invokevirtual 160, 3) := by decide +kernel
theorem dX12_readUnit_161 : decode cX12_readUnit 161 = .ok (.return_, 1) := by decide +kernel
theorem dX12_readBoth_0 : decode cX12_readBoth 0 = .ok (.aload_n 0, 1) := by decide +kernel
theorem dX12_readBoth_1 : decode cX12_readBoth 1 = .ok (.iload_n 1, 1) := by decide +kernel
theorem dX12_readBoth_2 : decode cX12_readBoth 2 = .ok (.invokevirtual 181, 3) := by decide +kernel
theorem dX12_readBoth_5 : decode cX12_readBoth 5 = .ok (.aload_n 0, 1) := by decide +kernel
theorem dX12_readBoth_6 : decode cX12_readBoth 6 = .ok (.bipush 17, 2) := by decide +kernel
theorem dX12_readBoth_8 : decode cX12_readBoth 8 = .ok (.invokevirtual 172, 3) := by decide +kernel
theorem dX12_readBoth_11 : decode cX12_readBoth 11 = .ok (.ifCond .eq 18, 3) := by decide +kernel
theorem dX12_readBoth_14 : decode cX12_readBoth 14 = .ok (.aload_n 0, 1) := by decide +kernel
theorem dX12_readBoth_15 : decode cX12_readBoth 15 = .ok (.iload_n 1, 1) := by decide +kernel
theorem dX12_readBoth_16 : decode cX12_readBoth 16 = .ok (.invokevirtual 181, 3) := by decide +kernel
theorem dX12_readBoth_19 : decode cX12_readBoth 19 = .ok (.aload_n 0, 1) := by decide +kernel
theorem dX12_readBoth_20 : decode cX12_readBoth 20 = .ok (.sipush 3007, 3) := by decide +kernel
theorem dX12_readBoth_23 : decode cX12_readBoth 23 = .ok (.invokevirtual 160, 3) := by decide +kernel
theorem dX12_readBoth_26 : decode cX12_readBoth 26 = .ok (.goto (-21), 3) := by decide +kernel
theorem dX12_readBoth_29 : decode cX12_readBoth 29 = .ok (.return_, 1) := by decide +kernel
theorem dX12_readTruth_0 : decode cX12_readTruth 0 = .ok (.aload_n 0, 1) := by decide +kernel
theorem dX12_readTruth_1 : decode cX12_readTruth 1 = .ok (.iload_n 1, 1) := by decide +kernel
theorem dX12_readTruth_2 : decode cX12_readTruth 2 = .ok (.invokevirtual 187, 3) := by decide +kernel
theorem dX12_readTruth_5 : decode cX12_readTruth 5 = .ok (.aload_n 0, 1) := by decide +kernel
theorem dX12_readTruth_6 : decode cX12_readTruth 6 = .ok (.bipush 18, 2) := by decide +kernel
theorem dX12_readTruth_8 : decode cX12_readTruth 8 = .ok (.invokevirtual 172, 3) := by decide +kernel
theorem dX12_readTruth_11 : decode cX12_readTruth 11 = .ok (.ifCond .eq 18, 3) := by decide +kernel
theorem dX12_readTruth_14 : decode cX12_readTruth 14 = .ok (.aload_n 0, 1) := by decide +kernel
theorem dX12_readTruth_15 : decode cX12_readTruth 15 = .ok (.iload_n 1, 1) := by decide +kernel
theorem dX12_readTruth_16 : decode cX12_readTruth 16 = .ok (.invokevirtual 187, 3) := by decide +kernel
theorem dX12_readTruth_19 : decode cX12_readTruth 19 = .ok (.aload_n 0, 1) := by decide +kernel
theorem dX12_readTruth_20 : decode cX12_readTruth 20 = .ok (.sipush 3008, 3) := by decide +kernel
theorem dX12_readTruth_23 : decode cX12_readTruth 23 = .ok (.invokevirtual 160, 3) := by decide +kernel
theorem dX12_readTruth_26 : decode cX12_readTruth 26 = .ok (.goto (-21), 3) := by decide +kernel
theorem dX12_readTruth_29 : decode cX12_readTruth 29 = .ok (.return_, 1) := by decide +kernel
theorem dX12_readPiece_0 : decode cX12_readPiece 0 = .ok (.aload_n 0, 1) := by decide +kernel
theorem dX12_readPiece_1 : decode cX12_readPiece 1 = .ok (.getfield 24, 3) := by decide +kernel
theorem dX12_readPiece_4 : decode cX12_readPiece 4 = .ok (.iconst 1, 1) := by decide +kernel
theorem dX12_readPiece_5 : decode cX12_readPiece 5 = .ok (.iaload, 1) := by decide +kernel
theorem dX12_readPiece_6 : decode cX12_readPiece 6 = .ok (.istore_n 1, 1) := by decide +kernel
theorem dX12_readPiece_7 : decode cX12_readPiece 7 = .ok (.iload_n 1, 1) := by decide +kernel
theorem dX12_readPiece_8 : decode cX12_readPiece 8 = .ok (.iconst 4, 1) := by decide +kernel
theorem dX12_readPiece_9 : decode cX12_readPiece 9 = .ok (.if_icmp .ne 8, 3) := by decide +kernel
theorem dX12_readPiece_12 : decode cX12_readPiece 12 = .ok (.aload_n 0, 1) := by decide +kernel
theorem dX12_readPiece_13 : decode cX12_readPiece 13 = .ok (.iconst 4, 1) := by decide +kernel
theorem dX12_readPiece_14 : decode cX12_readPiece 14 = .ok (.invokevirtual 148, 3) := by decide +kernel
theorem dX12_readPiece_17 : decode cX12_readPiece 17 = .ok (.aload_n 0, 1) := by decide +kernel
theorem dX12_readPiece_18 : decode cX12_readPiece 18 = .ok (.getfield 136, 3) := by decide +kernel
theorem dX12_readPiece_21 : decode cX12_readPiece 21 = .ok (.ifCond .eq 4, 3) := by decide +kernel
theorem dX12_readPiece_24 : decode cX12_readPiece 24 = .ok (.return_, 1) := by decide +kernel
theorem dX12_readPiece_25 : decode cX12_readPiece 25 = .ok (.aload_n 0, 1) := by decide +kernel
theorem dX12_readPiece_26 : decode cX12_readPiece 26 = .ok (.invokevirtual 145, 3) := by decide +kernel
theorem dX12_readPiece_29 : decode cX12_readPiece 29 = .ok (.aload_n 0, 1) := by decide +kernel
theorem dX12_readPiece_30 : decode cX12_readPiece 30 = .ok (.getfield 136, 3) := by decide +kernel
theorem dX12_readPiece_33 : decode cX12_readPiece 33 = .ok (.ifCond .ne 120, 3) := by decide +kernel
theorem dX12_readPiece_36 : decode cX12_readPiece 36 = .ok (.aload_n 0, 1) := by decide +kernel
theorem dX12_readPiece_37 : decode cX12_readPiece 37 = .ok (.iconst 2, 1) := by decide +kernel
theorem dX12_readPiece_38 : decode cX12_readPiece 38 = .ok (.invokevirtual 142, 3) := by decide +kernel
theorem dX12_readPiece_41 : decode cX12_readPiece 41 = .ok (.ifCond .ne 11, 3) := by decide +kernel
theorem dX12_readPiece_44 : decode cX12_readPiece 44 = .ok (.aload_n 0, 1) := by decide +kernel
theorem dX12_readPiece_45 : decode cX12_readPiece 45 = .ok (.iconst 3, 1) := by decide +kernel
theorem dX12_readPiece_46 : decode cX12_readPiece 46 = .ok (.invokevirtual 142, 3) := by decide +kernel
theorem dX12_readPiece_49 : decode cX12_readPiece 49 = .ok (.ifCond .eq 104, 3) := by decide +kernel
theorem dX12_readPiece_52 : decode cX12_readPiece 52 = .ok (.aload_n 0, 1) := by decide +kernel
theorem dX12_readPiece_53 : decode cX12_readPiece 53 = .ok (.getfield 24, 3) := by decide +kernel
theorem dX12_readPiece_56 : decode cX12_readPiece 56 = .ok (.bipush 10, 2) := by decide +kernel
theorem dX12_readPiece_58 : decode cX12_readPiece 58 = .ok (.iload_n 1, 1) := by decide +kernel
theorem dX12_readPiece_59 : decode cX12_readPiece 59 = .ok (.iadd, 1) := by decide +kernel
theorem dX12_readPiece_60 : decode cX12_readPiece 60 = .ok (.iaload, 1) := by decide +kernel
theorem dX12_readPiece_61 : decode cX12_readPiece 61 = .ok (.bipush 12, 2) := by decide +kernel
theorem dX12_readPiece_63 : decode cX12_readPiece 63 = .ok (.if_icmp .ne 8, 3) := by decide +kernel
theorem dX12_readPiece_66 : decode cX12_readPiece 66 = .ok (.aload_n 0, 1) := by decide +kernel
theorem dX12_readPiece_67 : decode cX12_readPiece 67 = .ok (.iconst 4, 1) := by decide +kernel
theorem dX12_readPiece_68 : decode cX12_readPiece 68 = .ok (.invokevirtual 148, 3) := by decide +kernel
theorem dX12_readPiece_71 : decode cX12_readPiece 71 = .ok (.aload_n 0, 1) := by decide +kernel
theorem dX12_readPiece_72 : decode cX12_readPiece 72 = .ok (.iconst 2, 1) := by decide +kernel
theorem dX12_readPiece_73 : decode cX12_readPiece 73 = .ok (.invokevirtual 142, 3) := by decide +kernel
theorem dX12_readPiece_76 : decode cX12_readPiece 76 = .ok (.ifCond .eq 7, 3) := by decide +kernel
theorem dX12_readPiece_79 : decode cX12_readPiece 79 = .ok (.iconst 1, 1) := by decide +kernel
theorem dX12_readPiece_80 : decode cX12_readPiece 80 = .ok (.goto 4, 3) := by decide +kernel
theorem dX12_readPiece_83 : decode cX12_readPiece 83 = .ok (.iconst (-1), 1) := by decide +kernel
theorem dX12_readPiece_84 : decode cX12_readPiece 84 = .ok (.istore_n 2, 1) := by decide +kernel
theorem dX12_readPiece_85 : decode cX12_readPiece 85 = .ok (.aload_n 0, 1) := by decide +kernel
theorem dX12_readPiece_86 : decode cX12_readPiece 86 = .ok (.getfield 136, 3) := by decide +kernel
theorem dX12_readPiece_89 : decode cX12_readPiece 89 = .ok (.ifCond .ne 7, 3) := by decide +kernel
theorem dX12_readPiece_92 : decode cX12_readPiece 92 = .ok (.aload_n 0, 1) := by decide +kernel
theorem dX12_readPiece_93 : decode cX12_readPiece 93 = .ok (.invokevirtual 145, 3) := by decide +kernel
theorem dX12_readPiece_96 : decode cX12_readPiece 96 = .ok (.aload_n 0, 1) := by decide +kernel
theorem dX12_readPiece_97 : decode cX12_readPiece 97 = .ok (.iconst 0, 1) := by decide +kernel
theorem dX12_readPiece_98 : decode cX12_readPiece 98 = .ok (.bipush 9, 2) := by decide +kernel
theorem dX12_readPiece_100 : decode cX12_readPiece 100 = .ok (.invokevirtual 190, 3) := by decide +kernel
theorem dX12_readPiece_103 : decode cX12_readPiece 103 = .ok (.istore_n 3, 1) := by decide +kernel
theorem dX12_readPiece_104 : decode cX12_readPiece 104 = .ok (.aload_n 0, 1) := by decide +kernel
theorem dX12_readPiece_105 : decode cX12_readPiece 105 = .ok (.getfield 136, 3) := by decide +kernel
theorem dX12_readPiece_108 : decode cX12_readPiece 108 = .ok (.ifCond .eq 4, 3) := by decide +kernel
theorem dX12_readPiece_111 : decode cX12_readPiece 111 = .ok (.return_, 1) := by decide +kernel
theorem dX12_readPiece_112 : decode cX12_readPiece 112 = .ok (.aload_n 0, 1) := by decide +kernel
theorem dX12_readPiece_113 : decode cX12_readPiece 113 = .ok (.getfield 24, 3) := by decide +kernel
theorem dX12_readPiece_116 : decode cX12_readPiece 116 = .ok (.bipush 15, 2) := by decide +kernel
theorem dX12_readPiece_118 : decode cX12_readPiece 118 = .ok (.bipush 12, 2) := by decide +kernel
theorem dX12_readPiece_120 : decode cX12_readPiece 120 = .ok (.iload_n 1, 1) := by decide +kernel
theorem dX12_readPiece_121 : decode cX12_readPiece 121 = .ok (.imul, 1) := by decide +kernel
theorem dX12_readPiece_122 : decode cX12_readPiece 122 = .ok (.iadd, 1) := by decide +kernel
theorem dX12_readPiece_123 : decode cX12_readPiece 123 = .ok (.aload_n 0, 1) := by decide +kernel
theorem dX12_readPiece_124 : decode cX12_readPiece 124 = .ok (.getfield 24, 3) := by decide +kernel
theorem dX12_readPiece_127 : decode cX12_readPiece 127 = .ok (.bipush 10, 2) := by decide +kernel
theorem dX12_readPiece_129 : decode cX12_readPiece 129 = .ok (.iload_n 1, 1) := by decide +kernel
theorem dX12_readPiece_130 : decode cX12_readPiece 130 = .ok (.iadd, 1) := by decide +kernel
theorem dX12_readPiece_131 : decode cX12_readPiece 131 = .ok (.iaload, 1) := by decide +kernel
theorem dX12_readPiece_132 : decode cX12_readPiece 132 = .ok (.iadd, 1) := by decide +kernel
theorem dX12_readPiece_133 : decode cX12_readPiece 133 = .ok (.iload_n 2, 1) := by decide +kernel
theorem dX12_readPiece_134 : decode cX12_readPiece 134 = .ok (.iload_n 3, 1) := by decide +kernel
theorem dX12_readPiece_135 : decode cX12_readPiece 135 = .ok (.imul, 1) := by decide +kernel
theorem dX12_readPiece_136 : decode cX12_readPiece 136 = .ok (.iastore, 1) := by decide +kernel
theorem dX12_readPiece_137 : decode cX12_readPiece 137 = .ok (.aload_n 0, 1) := by decide +kernel
theorem dX12_readPiece_138 : decode cX12_readPiece 138 = .ok (.getfield 24, 3) := by decide +kernel
theorem dX12_readPiece_141 : decode cX12_readPiece 141 = .ok (.bipush 10, 2) := by decide +kernel
theorem dX12_readPiece_143 : decode cX12_readPiece 143 = .ok (.iload_n 1, 1) := by decide +kernel
theorem dX12_readPiece_144 : decode cX12_readPiece 144 = .ok (.iadd, 1) := by decide +kernel
theorem dX12_readPiece_145 : decode cX12_readPiece 145 = .ok (.dup2, 1) := by decide +kernel
theorem dX12_readPiece_146 : decode cX12_readPiece 146 = .ok (.iaload, 1) := by decide +kernel
theorem dX12_readPiece_147 : decode cX12_readPiece 147 = .ok (.iconst 1, 1) := by decide +kernel
theorem dX12_readPiece_148 : decode cX12_readPiece 148 = .ok (.iadd, 1) := by decide +kernel
theorem dX12_readPiece_149 : decode cX12_readPiece 149 = .ok (.iastore, 1) := by decide +kernel
theorem dX12_readPiece_150 : decode cX12_readPiece 150 = .ok (.goto (-121), 3) := by decide +kernel
theorem dX12_readPiece_153 : decode cX12_readPiece 153 = .ok (.aload_n 0, 1) := by decide +kernel
theorem dX12_readPiece_154 : decode cX12_readPiece 154 = .ok (.getfield 136, 3) := by decide +kernel
theorem dX12_readPiece_157 : decode cX12_readPiece 157 = .ok (.ifCond .ne 13, 3) := by decide +kernel
theorem dX12_readPiece_160 : decode cX12_readPiece 160 = .ok (.aload_n 0, 1) := by decide +kernel
theorem dX12_readPiece_161 : decode cX12_readPiece 161 = .ok (.getfield 24, 3) := by decide +kernel
theorem dX12_readPiece_164 : decode cX12_readPiece 164 = .ok (.iconst 1, 1) := by decide +kernel
theorem dX12_readPiece_165 : decode cX12_readPiece 165 = .ok (.dup2, 1) := by decide +kernel
theorem dX12_readPiece_166 : decode cX12_readPiece 166 = .ok (.iaload, 1) := by decide +kernel
theorem dX12_readPiece_167 : decode cX12_readPiece 167 = .ok (.iconst 1, 1) := by decide +kernel
theorem dX12_readPiece_168 : decode cX12_readPiece 168 = .ok (.iadd, 1) := by decide +kernel
theorem dX12_readPiece_169 : decode cX12_readPiece 169 = .ok (.iastore, 1) := by decide +kernel
theorem dX12_readPiece_170 : decode cX12_readPiece 170 = .ok (.return_, 1) := by decide +kernel
theorem dX12_readFlag_0 : decode cX12_readFlag 0 = .ok (.aload_n 0, 1) := by decide +kernel
theorem dX12_readFlag_1 : decode cX12_readFlag 1 = .ok (.iconst 5, 1) := by decide +kernel
theorem dX12_readFlag_2 : decode cX12_readFlag 2 = .ok (.invokevirtual 172, 3) := by decide +kernel
theorem dX12_readFlag_5 : decode cX12_readFlag 5 = .ok (.ifCond .eq 22, 3) := by decide +kernel
theorem dX12_readFlag_8 : decode cX12_readFlag 8 = .ok (.aload_n 0, 1) := by decide +kernel
theorem dX12_readFlag_9 : decode cX12_readFlag 9 = .ok (.getfield 24, 3) := by decide +kernel
theorem dX12_readFlag_12 : decode cX12_readFlag 12 = .ok (.bipush 77, 2) := by decide +kernel
theorem dX12_readFlag_14 : decode cX12_readFlag 14 = .ok (.iload_n 1, 1) := by decide +kernel
theorem dX12_readFlag_15 : decode cX12_readFlag 15 = .ok (.iadd, 1) := by decide +kernel
theorem dX12_readFlag_16 : decode cX12_readFlag 16 = .ok (.aload_n 0, 1) := by decide +kernel
theorem dX12_readFlag_17 : decode cX12_readFlag 17 = .ok (.iconst 0, 1) := by decide +kernel
theorem dX12_readFlag_18 : decode cX12_readFlag 18 = .ok (.bipush 20, 2) := by decide +kernel
theorem dX12_readFlag_20 : decode cX12_readFlag 20 = .ok (.invokevirtual 190, 3) := by decide +kernel
theorem dX12_readFlag_23 : decode cX12_readFlag 23 = .ok (.iastore, 1) := by decide +kernel
theorem dX12_readFlag_24 : decode cX12_readFlag 24 = .ok (.goto 62, 3) := by decide +kernel
theorem dX12_readFlag_27 : decode cX12_readFlag 27 = .ok (.aload_n 0, 1) := by decide +kernel
theorem dX12_readFlag_28 : decode cX12_readFlag 28 = .ok (.bipush 6, 2) := by decide +kernel
theorem dX12_readFlag_30 : decode cX12_readFlag 30 = .ok (.invokevirtual 172, 3) := by decide +kernel
theorem dX12_readFlag_33 : decode cX12_readFlag 33 = .ok (.ifCond .eq 23, 3) := by decide +kernel
theorem dX12_readFlag_36 : decode cX12_readFlag 36 = .ok (.aload_n 0, 1) := by decide +kernel
theorem dX12_readFlag_37 : decode cX12_readFlag 37 = .ok (.getfield 24, 3) := by decide +kernel
theorem dX12_readFlag_40 : decode cX12_readFlag 40 = .ok (.bipush 77, 2) := by decide +kernel
theorem dX12_readFlag_42 : decode cX12_readFlag 42 = .ok (.iload_n 1, 1) := by decide +kernel
theorem dX12_readFlag_43 : decode cX12_readFlag 43 = .ok (.iadd, 1) := by decide +kernel
theorem dX12_readFlag_44 : decode cX12_readFlag 44 = .ok (.aload_n 0, 1) := by decide +kernel
theorem dX12_readFlag_45 : decode cX12_readFlag 45 = .ok (.iconst 0, 1) := by decide +kernel
theorem dX12_readFlag_46 : decode cX12_readFlag 46 = .ok (.bipush 20, 2) := by decide +kernel
theorem dX12_readFlag_48 : decode cX12_readFlag 48 = .ok (.invokevirtual 190, 3) := by decide +kernel
theorem dX12_readFlag_51 : decode cX12_readFlag 51 = .ok (.ineg, 1) := by decide +kernel
theorem dX12_readFlag_52 : decode cX12_readFlag 52 = .ok (.iastore, 1) := by decide +kernel
theorem dX12_readFlag_53 : decode cX12_readFlag 53 = .ok (.goto 33, 3) := by decide +kernel
theorem dX12_readFlag_56 : decode cX12_readFlag 56 = .ok (.aload_n 0, 1) := by decide +kernel
theorem dX12_readFlag_57 : decode cX12_readFlag 57 = .ok (.bipush 7, 2) := by decide +kernel
theorem dX12_readFlag_59 : decode cX12_readFlag 59 = .ok (.invokevirtual 172, 3) := by decide +kernel
theorem dX12_readFlag_62 : decode cX12_readFlag 62 = .ok (.ifCond .eq 22, 3) := by decide +kernel
theorem dX12_readFlag_65 : decode cX12_readFlag 65 = .ok (.aload_n 0, 1) := by decide +kernel
theorem dX12_readFlag_66 : decode cX12_readFlag 66 = .ok (.getfield 24, 3) := by decide +kernel
theorem dX12_readFlag_69 : decode cX12_readFlag 69 = .ok (.bipush 87, 2) := by decide +kernel
theorem dX12_readFlag_71 : decode cX12_readFlag 71 = .ok (.iload_n 1, 1) := by decide +kernel
theorem dX12_readFlag_72 : decode cX12_readFlag 72 = .ok (.iadd, 1) := by decide +kernel
theorem dX12_readFlag_73 : decode cX12_readFlag 73 = .ok (.aload_n 0, 1) := by decide +kernel
theorem dX12_readFlag_74 : decode cX12_readFlag 74 = .ok (.iconst 0, 1) := by decide +kernel
theorem dX12_readFlag_75 : decode cX12_readFlag 75 = .ok (.bipush 9, 2) := by decide +kernel
theorem dX12_readFlag_77 : decode cX12_readFlag 77 = .ok (.invokevirtual 190, 3) := by decide +kernel
theorem dX12_readFlag_80 : decode cX12_readFlag 80 = .ok (.iastore, 1) := by decide +kernel
theorem dX12_readFlag_81 : decode cX12_readFlag 81 = .ok (.goto 5, 3) := by decide +kernel
theorem dX12_readFlag_84 : decode cX12_readFlag 84 = .ok (.iconst 0, 1) := by decide +kernel
theorem dX12_readFlag_85 : decode cX12_readFlag 85 = .ok (.ireturn, 1) := by decide +kernel
theorem dX12_readFlag_86 : decode cX12_readFlag 86 = .ok (.aload_n 0, 1) := by decide +kernel
theorem dX12_readFlag_87 : decode cX12_readFlag 87 = .ok (.getfield 136, 3) := by decide +kernel
theorem dX12_readFlag_90 : decode cX12_readFlag 90 = .ok (.ifCond .ne 7, 3) := by decide +kernel
theorem dX12_readFlag_93 : decode cX12_readFlag 93 = .ok (.iconst 1, 1) := by decide +kernel
theorem dX12_readFlag_94 : decode cX12_readFlag 94 = .ok (.goto 4, 3) := by decide +kernel
theorem dX12_readFlag_97 : decode cX12_readFlag 97 = .ok (.iconst 0, 1) := by decide +kernel
theorem dX12_readFlag_98 : decode cX12_readFlag 98 = .ok (.ireturn, 1) := by decide +kernel
theorem dX12_readPlayer_0 : decode cX12_readPlayer 0 = .ok (.aload_n 0, 1) := by decide +kernel
theorem dX12_readPlayer_1 : decode cX12_readPlayer 1 = .ok (.getfield 24, 3) := by decide +kernel
theorem dX12_readPlayer_4 : decode cX12_readPlayer 4 = .ok (.iconst 2, 1) := by decide +kernel
theorem dX12_readPlayer_5 : decode cX12_readPlayer 5 = .ok (.iaload, 1) := by decide +kernel
theorem dX12_readPlayer_6 : decode cX12_readPlayer 6 = .ok (.istore_n 1, 1) := by decide +kernel
theorem dX12_readPlayer_7 : decode cX12_readPlayer 7 = .ok (.iload_n 1, 1) := by decide +kernel
theorem dX12_readPlayer_8 : decode cX12_readPlayer 8 = .ok (.iconst 5, 1) := by decide +kernel
theorem dX12_readPlayer_9 : decode cX12_readPlayer 9 = .ok (.if_icmp .ne 8, 3) := by decide +kernel
theorem dX12_readPlayer_12 : decode cX12_readPlayer 12 = .ok (.aload_n 0, 1) := by decide +kernel
theorem dX12_readPlayer_13 : decode cX12_readPlayer 13 = .ok (.iconst 4, 1) := by decide +kernel
theorem dX12_readPlayer_14 : decode cX12_readPlayer 14 = .ok (.invokevirtual 148, 3) := by decide +kernel
theorem dX12_readPlayer_17 : decode cX12_readPlayer 17 = .ok (.aload_n 0, 1) := by decide +kernel
theorem dX12_readPlayer_18 : decode cX12_readPlayer 18 = .ok (.getfield 136, 3) := by decide +kernel
theorem dX12_readPlayer_21 : decode cX12_readPlayer 21 = .ok (.ifCond .eq 4, 3) := by decide +kernel
theorem dX12_readPlayer_24 : decode cX12_readPlayer 24 = .ok (.return_, 1) := by decide +kernel
theorem dX12_readPlayer_25 : decode cX12_readPlayer 25 = .ok (.aload_n 0, 1) := by decide +kernel
theorem dX12_readPlayer_26 : decode cX12_readPlayer 26 = .ok (.invokevirtual 145, 3) := by decide +kernel
theorem dX12_readPlayer_29 : decode cX12_readPlayer 29 = .ok (.aload_n 0, 1) := by decide +kernel
theorem dX12_readPlayer_30 : decode cX12_readPlayer 30 = .ok (.getfield 136, 3) := by decide +kernel
theorem dX12_readPlayer_33 : decode cX12_readPlayer 33 = .ok (.ifCond .ne 14, 3) := by decide +kernel
theorem dX12_readPlayer_36 : decode cX12_readPlayer 36 = .ok (.aload_n 0, 1) := by decide +kernel
theorem dX12_readPlayer_37 : decode cX12_readPlayer 37 = .ok (.iload_n 1, 1) := by decide +kernel
theorem dX12_readPlayer_38 : decode cX12_readPlayer 38 = .ok (.invokevirtual 194, 3) := by decide +kernel
theorem dX12_readPlayer_41 : decode cX12_readPlayer 41 = .ok (.ifCond .eq 6, 3) := by decide +kernel
theorem dX12_readPlayer_44 : decode cX12_readPlayer 44 = .ok (.goto (-15), 3) := by decide +kernel
theorem dX12_readPlayer_47 : decode cX12_readPlayer 47 = .ok (.aload_n 0, 1) := by decide +kernel
theorem dX12_readPlayer_48 : decode cX12_readPlayer 48 = .ok (.getfield 136, 3) := by decide +kernel
theorem dX12_readPlayer_51 : decode cX12_readPlayer 51 = .ok (.ifCond .ne 13, 3) := by decide +kernel
theorem dX12_readPlayer_54 : decode cX12_readPlayer 54 = .ok (.aload_n 0, 1) := by decide +kernel
theorem dX12_readPlayer_55 : decode cX12_readPlayer 55 = .ok (.getfield 24, 3) := by decide +kernel
theorem dX12_readPlayer_58 : decode cX12_readPlayer 58 = .ok (.iconst 2, 1) := by decide +kernel
theorem dX12_readPlayer_59 : decode cX12_readPlayer 59 = .ok (.dup2, 1) := by decide +kernel
theorem dX12_readPlayer_60 : decode cX12_readPlayer 60 = .ok (.iaload, 1) := by decide +kernel
theorem dX12_readPlayer_61 : decode cX12_readPlayer 61 = .ok (.iconst 1, 1) := by decide +kernel
theorem dX12_readPlayer_62 : decode cX12_readPlayer 62 = .ok (.iadd, 1) := by decide +kernel
theorem dX12_readPlayer_63 : decode cX12_readPlayer 63 = .ok (.iastore, 1) := by decide +kernel
theorem dX12_readPlayer_64 : decode cX12_readPlayer 64 = .ok (.return_, 1) := by decide +kernel
theorem dX12_readLaw_0 : decode cX12_readLaw 0 = .ok (.aload_n 0, 1) := by decide +kernel
theorem dX12_readLaw_1 : decode cX12_readLaw 1 = .ok (.invokevirtual 145, 3) := by decide +kernel
theorem dX12_readLaw_4 : decode cX12_readLaw 4 = .ok (.aload_n 0, 1) := by decide +kernel
theorem dX12_readLaw_5 : decode cX12_readLaw 5 = .ok (.bipush 31, 2) := by decide +kernel
theorem dX12_readLaw_7 : decode cX12_readLaw 7 = .ok (.invokevirtual 172, 3) := by decide +kernel
theorem dX12_readLaw_10 : decode cX12_readLaw 10 = .ok (.ifCond .ne 8, 3) := by decide +kernel
theorem dX12_readLaw_13 : decode cX12_readLaw 13 = .ok (.aload_n 0, 1) := by decide +kernel
theorem dX12_readLaw_14 : decode cX12_readLaw 14 = .ok (.iconst 2, 1) := by decide +kernel
theorem dX12_readLaw_15 : decode cX12_readLaw 15 = .ok (.invokevirtual 148, 3) := by decide +kernel
theorem dX12_readLaw_18 : decode cX12_readLaw 18 = .ok (.aload_n 0, 1) := by decide +kernel
theorem dX12_readLaw_19 : decode cX12_readLaw 19 = .ok (.getfield 24, 3) := by decide +kernel
theorem dX12_readLaw_22 : decode cX12_readLaw 22 = .ok (.sipush 263, 3) := by decide +kernel
theorem dX12_readLaw_25 : decode cX12_readLaw 25 = .ok (.iaload, 1) := by decide +kernel
theorem dX12_readLaw_26 : decode cX12_readLaw 26 = .ok (.istore_n 2, 1) := by decide +kernel
theorem dX12_readLaw_27 : decode cX12_readLaw 27 = .ok (.iload_n 1, 1) := by decide +kernel
theorem dX12_readLaw_28 : decode cX12_readLaw 28 = .ok (.ifCond .ne 11, 3) := by decide +kernel
theorem dX12_readLaw_31 : decode cX12_readLaw 31 = .ok (.aload_n 0, 1) := by decide +kernel
theorem dX12_readLaw_32 : decode cX12_readLaw 32 = .ok (.iconst 0, 1) := by decide +kernel
theorem dX12_readLaw_33 : decode cX12_readLaw 33 = .ok (.invokevirtual 169, 3) := by decide +kernel
theorem dX12_readLaw_36 : decode cX12_readLaw 36 = .ok (.goto 8, 3) := by decide +kernel
theorem dX12_readLaw_39 : decode cX12_readLaw 39 = .ok (.aload_n 0, 1) := by decide +kernel
theorem dX12_readLaw_40 : decode cX12_readLaw 40 = .ok (.iconst 0, 1) := by decide +kernel
theorem dX12_readLaw_41 : decode cX12_readLaw 41 = .ok (.invokevirtual 184, 3) := by decide +kernel
theorem dX12_readLaw_44 : decode cX12_readLaw 44 = .ok (.aload_n 0, 1) := by decide +kernel
theorem dX12_readLaw_45 : decode cX12_readLaw 45 = .ok (.getfield 136, 3) := by decide +kernel
theorem dX12_readLaw_48 : decode cX12_readLaw 48 = .ok (.ifCond .eq 4, 3) := by decide +kernel
theorem dX12_readLaw_51 : decode cX12_readLaw 51 = .ok (.return_, 1) := by decide +kernel
theorem dX12_readLaw_52 : decode cX12_readLaw 52 = .ok (.aload_n 0, 1) := by decide +kernel
theorem dX12_readLaw_53 : decode cX12_readLaw 53 = .ok (.getfield 24, 3) := by decide +kernel
theorem dX12_readLaw_56 : decode cX12_readLaw 56 = .ok (.iconst 4, 1) := by decide +kernel
theorem dX12_readLaw_57 : decode cX12_readLaw 57 = .ok (.iload_n 1, 1) := by decide +kernel
theorem dX12_readLaw_58 : decode cX12_readLaw 58 = .ok (.iadd, 1) := by decide +kernel
theorem dX12_readLaw_59 : decode cX12_readLaw 59 = .ok (.iconst 1, 1) := by decide +kernel
theorem dX12_readLaw_60 : decode cX12_readLaw 60 = .ok (.iastore, 1) := by decide +kernel
theorem dX12_readLaw_61 : decode cX12_readLaw 61 = .ok (.aload_n 0, 1) := by decide +kernel
theorem dX12_readLaw_62 : decode cX12_readLaw 62 = .ok (.getfield 24, 3) := by decide +kernel
theorem dX12_readLaw_65 : decode cX12_readLaw 65 = .ok (.bipush 6, 2) := by decide +kernel
theorem dX12_readLaw_67 : decode cX12_readLaw 67 = .ok (.iload_n 1, 1) := by decide +kernel
theorem dX12_readLaw_68 : decode cX12_readLaw 68 = .ok (.iadd, 1) := by decide +kernel
theorem dX12_readLaw_69 : decode cX12_readLaw 69 = .ok (.iload_n 2, 1) := by decide +kernel
theorem dX12_readLaw_70 : decode cX12_readLaw 70 = .ok (.iastore, 1) := by decide +kernel
theorem dX12_readLaw_71 : decode cX12_readLaw 71 = .ok (.aload_n 0, 1) := by decide +kernel
theorem dX12_readLaw_72 : decode cX12_readLaw 72 = .ok (.getfield 24, 3) := by decide +kernel
theorem dX12_readLaw_75 : decode cX12_readLaw 75 = .ok (.bipush 8, 2) := by decide +kernel
theorem dX12_readLaw_77 : decode cX12_readLaw 77 = .ok (.iload_n 1, 1) := by decide +kernel
theorem dX12_readLaw_78 : decode cX12_readLaw 78 = .ok (.iadd, 1) := by decide +kernel
theorem dX12_readLaw_79 : decode cX12_readLaw 79 = .ok (.aload_n 0, 1) := by decide +kernel
theorem dX12_readLaw_80 : decode cX12_readLaw 80 = .ok (.getfield 24, 3) := by decide +kernel
theorem dX12_readLaw_83 : decode cX12_readLaw 83 = .ok (.sipush 263, 3) := by decide +kernel
theorem dX12_readLaw_86 : decode cX12_readLaw 86 = .ok (.iaload, 1) := by decide +kernel
theorem dX12_readLaw_87 : decode cX12_readLaw 87 = .ok (.iload_n 2, 1) := by decide +kernel
theorem dX12_readLaw_88 : decode cX12_readLaw 88 = .ok (.isub, 1) := by decide +kernel
theorem dX12_readLaw_89 : decode cX12_readLaw 89 = .ok (.iastore, 1) := by decide +kernel
theorem dX12_readLaw_90 : decode cX12_readLaw 90 = .ok (.return_, 1) := by decide +kernel
theorem dX12_readLine_0 : decode cX12_readLine 0 = .ok (.aload_n 0, 1) := by decide +kernel
theorem dX12_readLine_1 : decode cX12_readLine 1 = .ok (.getfield 136, 3) := by decide +kernel
theorem dX12_readLine_4 : decode cX12_readLine 4 = .ok (.ifCond .eq 4, 3) := by decide +kernel
theorem dX12_readLine_7 : decode cX12_readLine 7 = .ok (.return_, 1) := by decide +kernel
theorem dX12_readLine_8 : decode cX12_readLine 8 = .ok (.aload_n 0, 1) := by decide +kernel
theorem dX12_readLine_9 : decode cX12_readLine 9 = .ok (.iconst 1, 1) := by decide +kernel
theorem dX12_readLine_10 : decode cX12_readLine 10 = .ok (.invokevirtual 142, 3) := by decide +kernel
theorem dX12_readLine_13 : decode cX12_readLine 13 = .ok (.ifCond .eq 10, 3) := by decide +kernel
theorem dX12_readLine_16 : decode cX12_readLine 16 = .ok (.aload_n 0, 1) := by decide +kernel
theorem dX12_readLine_17 : decode cX12_readLine 17 = .ok (.invokevirtual 197, 3) := by decide +kernel
theorem dX12_readLine_20 : decode cX12_readLine 20 = .ok (.goto 80, 3) := by decide +kernel
theorem dX12_readLine_23 : decode cX12_readLine 23 = .ok (.aload_n 0, 1) := by decide +kernel
theorem dX12_readLine_24 : decode cX12_readLine 24 = .ok (.iconst 4, 1) := by decide +kernel
theorem dX12_readLine_25 : decode cX12_readLine 25 = .ok (.invokevirtual 142, 3) := by decide +kernel
theorem dX12_readLine_28 : decode cX12_readLine 28 = .ok (.ifCond .eq 10, 3) := by decide +kernel
theorem dX12_readLine_31 : decode cX12_readLine 31 = .ok (.aload_n 0, 1) := by decide +kernel
theorem dX12_readLine_32 : decode cX12_readLine 32 = .ok (.invokevirtual 200, 3) := by decide +kernel
theorem dX12_readLine_35 : decode cX12_readLine 35 = .ok (.goto 65, 3) := by decide +kernel
theorem dX12_readLine_38 : decode cX12_readLine 38 = .ok (.aload_n 0, 1) := by decide +kernel
theorem dX12_readLine_39 : decode cX12_readLine 39 = .ok (.bipush 8, 2) := by decide +kernel
theorem dX12_readLine_41 : decode cX12_readLine 41 = .ok (.invokevirtual 142, 3) := by decide +kernel
theorem dX12_readLine_44 : decode cX12_readLine 44 = .ok (.ifCond .ne 12, 3) := by decide +kernel
theorem dX12_readLine_47 : decode cX12_readLine 47 = .ok (.aload_n 0, 1) := by decide +kernel
theorem dX12_readLine_48 : decode cX12_readLine 48 = .ok (.bipush 9, 2) := by decide +kernel
theorem dX12_readLine_50 : decode cX12_readLine 50 = .ok (.invokevirtual 142, 3) := by decide +kernel
theorem dX12_readLine_53 : decode cX12_readLine 53 = .ok (.ifCond .eq 17, 3) := by decide +kernel
theorem dX12_readLine_56 : decode cX12_readLine 56 = .ok (.aload_n 0, 1) := by decide +kernel
theorem dX12_readLine_57 : decode cX12_readLine 57 = .ok (.aload_n 0, 1) := by decide +kernel
theorem dX12_readLine_58 : decode cX12_readLine 58 = .ok (.getfield 118, 3) := by decide +kernel
theorem dX12_readLine_61 : decode cX12_readLine 61 = .ok (.bipush 8, 2) := by decide +kernel
theorem dX12_readLine_63 : decode cX12_readLine 63 = .ok (.isub, 1) := by decide +kernel
theorem dX12_readLine_64 : decode cX12_readLine 64 = .ok (.invokevirtual 203, 3) := by decide +kernel
theorem dX12_readLine_67 : decode cX12_readLine 67 = .ok (.goto 33, 3) := by decide +kernel
theorem dX12_readLine_70 : decode cX12_readLine 70 = .ok (.aload_n 0, 1) := by decide +kernel
theorem dX12_readLine_71 : decode cX12_readLine 71 = .ok (.bipush 10, 2) := by decide +kernel
theorem dX12_readLine_73 : decode cX12_readLine 73 = .ok (.invokevirtual 172, 3) := by decide +kernel
theorem dX12_readLine_76 : decode cX12_readLine 76 = .ok (.ifCond .eq 19, 3) := by decide +kernel
theorem dX12_readLine_79 : decode cX12_readLine 79 = .ok (.aload_n 0, 1) := by decide +kernel
theorem dX12_readLine_80 : decode cX12_readLine 80 = .ok (.getfield 24, 3) := by decide +kernel
theorem dX12_readLine_83 : decode cX12_readLine 83 = .ok (.iconst 3, 1) := by decide +kernel
theorem dX12_readLine_84 : decode cX12_readLine 84 = .ok (.aload_n 0, 1) := by decide +kernel
theorem dX12_readLine_85 : decode cX12_readLine 85 = .ok (.iconst 0, 1) := by decide +kernel
theorem dX12_readLine_86 : decode cX12_readLine 86 = .ok (.bipush 10, 2) := by decide +kernel
theorem dX12_readLine_88 : decode cX12_readLine 88 = .ok (.invokevirtual 190, 3) := by decide +kernel
theorem dX12_readLine_91 : decode cX12_readLine 91 = .ok (.iastore, 1) := by decide +kernel
theorem dX12_readLine_92 : decode cX12_readLine 92 = .ok (.goto 8, 3) := by decide +kernel
theorem dX12_readLine_95 : decode cX12_readLine 95 = .ok (.aload_n 0, 1) := by decide +kernel
theorem dX12_readLine_96 : decode cX12_readLine 96 = .ok (.iconst 2, 1) := by decide +kernel
theorem dX12_readLine_97 : decode cX12_readLine 97 = .ok (.invokevirtual 148, 3) := by decide +kernel
theorem dX12_readLine_100 : decode cX12_readLine 100 = .ok (.return_, 1) := by decide +kernel
theorem dX12_ends_0 : decode cX12_ends 0 = .ok (.aload_n 0, 1) := by decide +kernel
theorem dX12_ends_1 : decode cX12_ends 1 = .ok (.bipush 30, 2) := by decide +kernel
theorem dX12_ends_3 : decode cX12_ends 3 = .ok (.invokevirtual 172, 3) := by decide +kernel
theorem dX12_ends_6 : decode cX12_ends 6 = .ok (.ifCond .ne 8, 3) := by decide +kernel
theorem dX12_ends_9 : decode cX12_ends 9 = .ok (.aload_n 0, 1) := by decide +kernel
theorem dX12_ends_10 : decode cX12_ends 10 = .ok (.iconst 2, 1) := by decide +kernel
theorem dX12_ends_11 : decode cX12_ends 11 = .ok (.invokevirtual 148, 3) := by decide +kernel
theorem dX12_ends_14 : decode cX12_ends 14 = .ok (.aload_n 0, 1) := by decide +kernel
theorem dX12_ends_15 : decode cX12_ends 15 = .ok (.getfield 24, 3) := by decide +kernel
theorem dX12_ends_18 : decode cX12_ends 18 = .ok (.iconst 0, 1) := by decide +kernel
theorem dX12_ends_19 : decode cX12_ends 19 = .ok (.dup2, 1) := by decide +kernel
theorem dX12_ends_20 : decode cX12_ends 20 = .ok (.iaload, 1) := by decide +kernel
theorem dX12_ends_21 : decode cX12_ends 21 = .ok (.iconst 1, 1) := by decide +kernel
theorem dX12_ends_22 : decode cX12_ends 22 = .ok (.iadd, 1) := by decide +kernel
theorem dX12_ends_23 : decode cX12_ends 23 = .ok (.iastore, 1) := by decide +kernel
theorem dX12_ends_24 : decode cX12_ends 24 = .ok (.return_, 1) := by decide +kernel
theorem dX12_desk_0 : decode cX12_desk 0 = .ok (.aload_n 0, 1) := by decide +kernel
theorem dX12_desk_1 : decode cX12_desk 1 = .ok (.iconst 0, 1) := by decide +kernel
theorem dX12_desk_2 : decode cX12_desk 2 = .ok (.putfield 1, 3) := by decide +kernel
theorem dX12_desk_5 : decode cX12_desk 5 = .ok (.iload_n 1, 1) := by decide +kernel
theorem dX12_desk_6 : decode cX12_desk 6 = .ok (.i2l, 1) := by decide +kernel
theorem dX12_desk_7 : decode cX12_desk 7 = .ok (.lconst 0, 1) := by decide +kernel
theorem dX12_desk_8 : decode cX12_desk 8 = .ok (.aload_n 0, 1) := by decide +kernel
theorem dX12_desk_9 : decode cX12_desk 9 = .ok (.getfield 89, 3) := by decide +kernel
theorem dX12_desk_12 : decode cX12_desk 12 = .ok (.i2l, 1) := by decide +kernel
theorem dX12_desk_13 : decode cX12_desk 13 = .ok (.invokestatic 152, 3) := by decide +kernel
theorem dX12_desk_16 : decode cX12_desk 16 = .ok (.ifCond .ne 6, 3) := by decide +kernel
theorem dX12_desk_19 : decode cX12_desk 19 = .ok (.ldc 206, 2) := by decide +kernel
theorem dX12_desk_21 : decode cX12_desk 21 = .ok (.ireturn, 1) := by decide +kernel
theorem dX12_desk_22 : decode cX12_desk 22 = .ok (.aload_n 0, 1) := by decide +kernel
theorem dX12_desk_23 : decode cX12_desk 23 = .ok (.iload_n 1, 1) := by decide +kernel
theorem dX12_desk_24 : decode cX12_desk 24 = .ok (.putfield 93, 3) := by decide +kernel
theorem dX12_desk_27 : decode cX12_desk 27 = .ok (.aload_n 0, 1) := by decide +kernel
theorem dX12_desk_28 : decode cX12_desk 28 = .ok (.iconst 0, 1) := by decide +kernel
theorem dX12_desk_29 : decode cX12_desk 29 = .ok (.putfield 89, 3) := by decide +kernel
theorem dX12_desk_32 : decode cX12_desk 32 = .ok (.aload_n 0, 1) := by decide +kernel
theorem dX12_desk_33 : decode cX12_desk 33 = .ok (.iconst 0, 1) := by decide +kernel
theorem dX12_desk_34 : decode cX12_desk 34 = .ok (.putfield 111, 3) := by decide +kernel
theorem dX12_desk_37 : decode cX12_desk 37 = .ok (.aload_n 0, 1) := by decide +kernel
theorem dX12_desk_38 : decode cX12_desk 38 = .ok (.iconst 0, 1) := by decide +kernel
theorem dX12_desk_39 : decode cX12_desk 39 = .ok (.putfield 136, 3) := by decide +kernel
theorem dX12_desk_42 : decode cX12_desk 42 = .ok (.aload_n 0, 1) := by decide +kernel
theorem dX12_desk_43 : decode cX12_desk 43 = .ok (.getfield 24, 3) := by decide +kernel
theorem dX12_desk_46 : decode cX12_desk 46 = .ok (.invokestatic 85, 3) := by decide +kernel
theorem dX12_desk_49 : decode cX12_desk 49 = .ok (.aload_n 0, 1) := by decide +kernel
theorem dX12_desk_50 : decode cX12_desk 50 = .ok (.invokevirtual 145, 3) := by decide +kernel
theorem dX12_desk_53 : decode cX12_desk 53 = .ok (.aload_n 0, 1) := by decide +kernel
theorem dX12_desk_54 : decode cX12_desk 54 = .ok (.iconst 0, 1) := by decide +kernel
theorem dX12_desk_55 : decode cX12_desk 55 = .ok (.invokevirtual 172, 3) := by decide +kernel
theorem dX12_desk_58 : decode cX12_desk 58 = .ok (.ifCond .ne 8, 3) := by decide +kernel
theorem dX12_desk_61 : decode cX12_desk 61 = .ok (.aload_n 0, 1) := by decide +kernel
theorem dX12_desk_62 : decode cX12_desk 62 = .ok (.iconst 2, 1) := by decide +kernel
theorem dX12_desk_63 : decode cX12_desk 63 = .ok (.invokevirtual 148, 3) := by decide +kernel
theorem dX12_desk_66 : decode cX12_desk 66 = .ok (.aload_n 0, 1) := by decide +kernel
theorem dX12_desk_67 : decode cX12_desk 67 = .ok (.invokevirtual 207, 3) := by decide +kernel
theorem dX12_desk_70 : decode cX12_desk 70 = .ok (.aload_n 0, 1) := by decide +kernel
theorem dX12_desk_71 : decode cX12_desk 71 = .ok (.getfield 136, 3) := by decide +kernel
theorem dX12_desk_74 : decode cX12_desk 74 = .ok (.ifCond .ne 23, 3) := by decide +kernel
theorem dX12_desk_77 : decode cX12_desk 77 = .ok (.aload_n 0, 1) := by decide +kernel
theorem dX12_desk_78 : decode cX12_desk 78 = .ok (.getfield 118, 3) := by decide +kernel
theorem dX12_desk_81 : decode cX12_desk 81 = .ok (.bipush 24, 2) := by decide +kernel
theorem dX12_desk_83 : decode cX12_desk 83 = .ok (.if_icmp .eq 14, 3) := by decide +kernel
theorem dX12_desk_86 : decode cX12_desk 86 = .ok (.aload_n 0, 1) := by decide +kernel
theorem dX12_desk_87 : decode cX12_desk 87 = .ok (.invokevirtual 210, 3) := by decide +kernel
theorem dX12_desk_90 : decode cX12_desk 90 = .ok (.aload_n 0, 1) := by decide +kernel
theorem dX12_desk_91 : decode cX12_desk 91 = .ok (.invokevirtual 207, 3) := by decide +kernel
theorem dX12_desk_94 : decode cX12_desk 94 = .ok (.goto (-24), 3) := by decide +kernel
theorem dX12_desk_97 : decode cX12_desk 97 = .ok (.aload_n 0, 1) := by decide +kernel
theorem dX12_desk_98 : decode cX12_desk 98 = .ok (.aload_n 0, 1) := by decide +kernel
theorem dX12_desk_99 : decode cX12_desk 99 = .ok (.getfield 136, 3) := by decide +kernel
theorem dX12_desk_102 : decode cX12_desk 102 = .ok (.putfield 213, 3) := by decide +kernel
theorem dX12_desk_105 : decode cX12_desk 105 = .ok (.aload_n 0, 1) := by decide +kernel
theorem dX12_desk_106 : decode cX12_desk 106 = .ok (.aload_n 0, 1) := by decide +kernel
theorem dX12_desk_107 : decode cX12_desk 107 = .ok (.getfield 136, 3) := by decide +kernel
theorem dX12_desk_110 : decode cX12_desk 110 = .ok (.ifCond .ne 7, 3) := by decide +kernel
theorem dX12_desk_113 : decode cX12_desk 113 = .ok (.iconst (-1), 1) := by decide +kernel
theorem dX12_desk_114 : decode cX12_desk 114 = .ok (.goto 7, 3) := by decide +kernel
theorem dX12_desk_117 : decode cX12_desk 117 = .ok (.aload_n 0, 1) := by decide +kernel
theorem dX12_desk_118 : decode cX12_desk 118 = .ok (.getfield 139, 3) := by decide +kernel
theorem dX12_desk_121 : decode cX12_desk 121 = .ok (.putfield 27, 3) := by decide +kernel
theorem dX12_desk_124 : decode cX12_desk 124 = .ok (.aload_n 0, 1) := by decide +kernel
theorem dX12_desk_125 : decode cX12_desk 125 = .ok (.getfield 136, 3) := by decide +kernel
theorem dX12_desk_128 : decode cX12_desk 128 = .ok (.ifCond .eq 11, 3) := by decide +kernel
theorem dX12_desk_131 : decode cX12_desk 131 = .ok (.ldc 216, 2) := by decide +kernel
theorem dX12_desk_133 : decode cX12_desk 133 = .ok (.aload_n 0, 1) := by decide +kernel
theorem dX12_desk_134 : decode cX12_desk 134 = .ok (.getfield 136, 3) := by decide +kernel
theorem dX12_desk_137 : decode cX12_desk 137 = .ok (.isub, 1) := by decide +kernel
theorem dX12_desk_138 : decode cX12_desk 138 = .ok (.ireturn, 1) := by decide +kernel
theorem dX12_desk_139 : decode cX12_desk 139 = .ok (.iconst 0, 1) := by decide +kernel
theorem dX12_desk_140 : decode cX12_desk 140 = .ok (.istore_n 2, 1) := by decide +kernel
theorem dX12_desk_141 : decode cX12_desk 141 = .ok (.iload_n 2, 1) := by decide +kernel
theorem dX12_desk_142 : decode cX12_desk 142 = .ok (.sipush 1164, 3) := by decide +kernel
theorem dX12_desk_145 : decode cX12_desk 145 = .ok (.if_icmp .ge 21, 3) := by decide +kernel
theorem dX12_desk_148 : decode cX12_desk 148 = .ok (.aload_n 0, 1) := by decide +kernel
theorem dX12_desk_149 : decode cX12_desk 149 = .ok (.getfield 13, 3) := by decide +kernel
theorem dX12_desk_152 : decode cX12_desk 152 = .ok (.iload_n 2, 1) := by decide +kernel
theorem dX12_desk_153 : decode cX12_desk 153 = .ok (.aload_n 0, 1) := by decide +kernel
theorem dX12_desk_154 : decode cX12_desk 154 = .ok (.getfield 24, 3) := by decide +kernel
theorem dX12_desk_157 : decode cX12_desk 157 = .ok (.iload_n 2, 1) := by decide +kernel
theorem dX12_desk_158 : decode cX12_desk 158 = .ok (.iaload, 1) := by decide +kernel
theorem dX12_desk_159 : decode cX12_desk 159 = .ok (.iastore, 1) := by decide +kernel
theorem dX12_desk_160 : decode cX12_desk 160 = .ok (.iinc 2 1, 3) := by decide +kernel
theorem dX12_desk_163 : decode cX12_desk 163 = .ok (.goto (-22), 3) := by decide +kernel
theorem dX12_desk_166 : decode cX12_desk 166 = .ok (.aload_n 0, 1) := by decide +kernel
theorem dX12_desk_167 : decode cX12_desk 167 = .ok (.getfield 13, 3) := by decide +kernel
theorem dX12_desk_170 : decode cX12_desk 170 = .ok (.iconst 0, 1) := by decide +kernel
theorem dX12_desk_171 : decode cX12_desk 171 = .ok (.iaload, 1) := by decide +kernel
theorem dX12_desk_172 : decode cX12_desk 172 = .ok (.ireturn, 1) := by decide +kernel
theorem dX12_fault_0 : decode cX12_fault 0 = .ok (.aload_n 0, 1) := by decide +kernel
theorem dX12_fault_1 : decode cX12_fault 1 = .ok (.iconst 0, 1) := by decide +kernel
theorem dX12_fault_2 : decode cX12_fault 2 = .ok (.putfield 1, 3) := by decide +kernel
theorem dX12_fault_5 : decode cX12_fault 5 = .ok (.iload_n 1, 1) := by decide +kernel
theorem dX12_fault_6 : decode cX12_fault 6 = .ok (.ifCond .ne 10, 3) := by decide +kernel
theorem dX12_fault_9 : decode cX12_fault 9 = .ok (.aload_n 0, 1) := by decide +kernel
theorem dX12_fault_10 : decode cX12_fault 10 = .ok (.getfield 213, 3) := by decide +kernel
theorem dX12_fault_13 : decode cX12_fault 13 = .ok (.goto 16, 3) := by decide +kernel
theorem dX12_fault_16 : decode cX12_fault 16 = .ok (.iload_n 1, 1) := by decide +kernel
theorem dX12_fault_17 : decode cX12_fault 17 = .ok (.iconst 1, 1) := by decide +kernel
theorem dX12_fault_18 : decode cX12_fault 18 = .ok (.if_icmp .ne 10, 3) := by decide +kernel
theorem dX12_fault_21 : decode cX12_fault 21 = .ok (.aload_n 0, 1) := by decide +kernel
theorem dX12_fault_22 : decode cX12_fault 22 = .ok (.getfield 27, 3) := by decide +kernel
theorem dX12_fault_25 : decode cX12_fault 25 = .ok (.goto 4, 3) := by decide +kernel
theorem dX12_fault_28 : decode cX12_fault 28 = .ok (.iconst (-1), 1) := by decide +kernel
theorem dX12_fault_29 : decode cX12_fault 29 = .ok (.ireturn, 1) := by decide +kernel
theorem dX12_isPiece_0 : decode cX12_isPiece 0 = .ok (.lload_n 1, 1) := by decide +kernel
theorem dX12_isPiece_1 : decode cX12_isPiece 1 = .ok (.lconst 0, 1) := by decide +kernel
theorem dX12_isPiece_2 : decode cX12_isPiece 2 = .ok (.aload_n 0, 1) := by decide +kernel
theorem dX12_isPiece_3 : decode cX12_isPiece 3 = .ok (.getfield 13, 3) := by decide +kernel
theorem dX12_isPiece_6 : decode cX12_isPiece 6 = .ok (.iconst 1, 1) := by decide +kernel
theorem dX12_isPiece_7 : decode cX12_isPiece 7 = .ok (.iaload, 1) := by decide +kernel
theorem dX12_isPiece_8 : decode cX12_isPiece 8 = .ok (.iconst 1, 1) := by decide +kernel
theorem dX12_isPiece_9 : decode cX12_isPiece 9 = .ok (.isub, 1) := by decide +kernel
theorem dX12_isPiece_10 : decode cX12_isPiece 10 = .ok (.i2l, 1) := by decide +kernel
theorem dX12_isPiece_11 : decode cX12_isPiece 11 = .ok (.invokestatic 152, 3) := by decide +kernel
theorem dX12_isPiece_14 : decode cX12_isPiece 14 = .ok (.ireturn, 1) := by decide +kernel
theorem dX12_isPlayer_0 : decode cX12_isPlayer 0 = .ok (.lload_n 1, 1) := by decide +kernel
theorem dX12_isPlayer_1 : decode cX12_isPlayer 1 = .ok (.lconst 0, 1) := by decide +kernel
theorem dX12_isPlayer_2 : decode cX12_isPlayer 2 = .ok (.aload_n 0, 1) := by decide +kernel
theorem dX12_isPlayer_3 : decode cX12_isPlayer 3 = .ok (.getfield 13, 3) := by decide +kernel
theorem dX12_isPlayer_6 : decode cX12_isPlayer 6 = .ok (.iconst 2, 1) := by decide +kernel
theorem dX12_isPlayer_7 : decode cX12_isPlayer 7 = .ok (.iaload, 1) := by decide +kernel
theorem dX12_isPlayer_8 : decode cX12_isPlayer 8 = .ok (.iconst 1, 1) := by decide +kernel
theorem dX12_isPlayer_9 : decode cX12_isPlayer 9 = .ok (.isub, 1) := by decide +kernel
theorem dX12_isPlayer_10 : decode cX12_isPlayer 10 = .ok (.i2l, 1) := by decide +kernel
theorem dX12_isPlayer_11 : decode cX12_isPlayer 11 = .ok (.invokestatic 152, 3) := by decide +kernel
theorem dX12_isPlayer_14 : decode cX12_isPlayer 14 = .ok (.ireturn, 1) := by decide +kernel
theorem dX12_isStore_0 : decode cX12_isStore 0 = .ok (.lload_n 0, 1) := by decide +kernel
theorem dX12_isStore_1 : decode cX12_isStore 1 = .ok (.ldc2_w 217, 3) := by decide +kernel
theorem dX12_isStore_4 : decode cX12_isStore 4 = .ok (.ldc2_w 219, 3) := by decide +kernel
theorem dX12_isStore_7 : decode cX12_isStore 7 = .ok (.invokestatic 152, 3) := by decide +kernel
theorem dX12_isStore_10 : decode cX12_isStore 10 = .ok (.ireturn, 1) := by decide +kernel
theorem dX12_isDraw_0 : decode cX12_isDraw 0 = .ok (.lload_n 0, 1) := by decide +kernel
theorem dX12_isDraw_1 : decode cX12_isDraw 1 = .ok (.ldc2_w 221, 3) := by decide +kernel
theorem dX12_isDraw_4 : decode cX12_isDraw 4 = .ok (.ldc2_w 223, 3) := by decide +kernel
theorem dX12_isDraw_7 : decode cX12_isDraw 7 = .ok (.invokestatic 152, 3) := by decide +kernel
theorem dX12_isDraw_10 : decode cX12_isDraw 10 = .ok (.ireturn, 1) := by decide +kernel
theorem dX12_bitsOf_0 : decode cX12_bitsOf 0 = .ok (.iconst 0, 1) := by decide +kernel
theorem dX12_bitsOf_1 : decode cX12_bitsOf 1 = .ok (.istore_n 1, 1) := by decide +kernel
theorem dX12_bitsOf_2 : decode cX12_bitsOf 2 = .ok (.iconst 0, 1) := by decide +kernel
theorem dX12_bitsOf_3 : decode cX12_bitsOf 3 = .ok (.istore_n 2, 1) := by decide +kernel
theorem dX12_bitsOf_4 : decode cX12_bitsOf 4 = .ok (.iload_n 2, 1) := by decide +kernel
theorem dX12_bitsOf_5 : decode cX12_bitsOf 5 = .ok (.bipush 10, 2) := by decide +kernel
theorem dX12_bitsOf_7 : decode cX12_bitsOf 7 = .ok (.if_icmp .ge 17, 3) := by decide +kernel
theorem dX12_bitsOf_10 : decode cX12_bitsOf 10 = .ok (.iload_n 1, 1) := by decide +kernel
theorem dX12_bitsOf_11 : decode cX12_bitsOf 11 = .ok (.iload_n 0, 1) := by decide +kernel
theorem dX12_bitsOf_12 : decode cX12_bitsOf 12 = .ok (.iload_n 2, 1) := by decide +kernel
theorem dX12_bitsOf_13 : decode cX12_bitsOf 13 = .ok (.ishr, 1) := by decide +kernel
theorem dX12_bitsOf_14 : decode cX12_bitsOf 14 = .ok (.iconst 1, 1) := by decide +kernel
theorem dX12_bitsOf_15 : decode cX12_bitsOf 15 = .ok (.iand, 1) := by decide +kernel
theorem dX12_bitsOf_16 : decode cX12_bitsOf 16 = .ok (.iadd, 1) := by decide +kernel
theorem dX12_bitsOf_17 : decode cX12_bitsOf 17 = .ok (.istore_n 1, 1) := by decide +kernel
theorem dX12_bitsOf_18 : decode cX12_bitsOf 18 = .ok (.iinc 2 1, 3) := by decide +kernel
theorem dX12_bitsOf_21 : decode cX12_bitsOf 21 = .ok (.goto (-17), 3) := by decide +kernel
theorem dX12_bitsOf_24 : decode cX12_bitsOf 24 = .ok (.iload_n 1, 1) := by decide +kernel
theorem dX12_bitsOf_25 : decode cX12_bitsOf 25 = .ok (.ireturn, 1) := by decide +kernel
theorem dX12_between_0 : decode cX12_between 0 = .ok (.iload_n 0, 1) := by decide +kernel
theorem dX12_between_1 : decode cX12_between 1 = .ok (.tableswitch 80 3003 3008 #[39, 50, 61, 80, 72, 76], 39) := by decide +kernel
theorem dX12_between_40 : decode cX12_between 40 = .ok (.iload_n 1, 1) := by decide +kernel
theorem dX12_between_41 : decode cX12_between 41 = .ok (.iload_n 2, 1) := by decide +kernel
theorem dX12_between_42 : decode cX12_between 42 = .ok (.if_icmp .ne 7, 3) := by decide +kernel
theorem dX12_between_45 : decode cX12_between 45 = .ok (.iconst 1, 1) := by decide +kernel
theorem dX12_between_46 : decode cX12_between 46 = .ok (.goto 4, 3) := by decide +kernel
theorem dX12_between_49 : decode cX12_between 49 = .ok (.iconst 0, 1) := by decide +kernel
theorem dX12_between_50 : decode cX12_between 50 = .ok (.ireturn, 1) := by decide +kernel
theorem dX12_between_51 : decode cX12_between 51 = .ok (.iload_n 1, 1) := by decide +kernel
theorem dX12_between_52 : decode cX12_between 52 = .ok (.iload_n 2, 1) := by decide +kernel
theorem dX12_between_53 : decode cX12_between 53 = .ok (.if_icmp .ge 7, 3) := by decide +kernel
theorem dX12_between_56 : decode cX12_between 56 = .ok (.iconst 1, 1) := by decide +kernel
theorem dX12_between_57 : decode cX12_between 57 = .ok (.goto 4, 3) := by decide +kernel
theorem dX12_between_60 : decode cX12_between 60 = .ok (.iconst 0, 1) := by decide +kernel
theorem dX12_between_61 : decode cX12_between 61 = .ok (.ireturn, 1) := by decide +kernel
theorem dX12_between_62 : decode cX12_between 62 = .ok (.iload_n 1, 1) := by decide +kernel
theorem dX12_between_63 : decode cX12_between 63 = .ok (.iload_n 2, 1) := by decide +kernel
theorem dX12_between_64 : decode cX12_between 64 = .ok (.if_icmp .le 7, 3) := by decide +kernel
theorem dX12_between_67 : decode cX12_between 67 = .ok (.iconst 1, 1) := by decide +kernel
theorem dX12_between_68 : decode cX12_between 68 = .ok (.goto 4, 3) := by decide +kernel
theorem dX12_between_71 : decode cX12_between 71 = .ok (.iconst 0, 1) := by decide +kernel
theorem dX12_between_72 : decode cX12_between 72 = .ok (.ireturn, 1) := by decide +kernel
theorem dX12_between_73 : decode cX12_between 73 = .ok (.iload_n 1, 1) := by decide +kernel
theorem dX12_between_74 : decode cX12_between 74 = .ok (.iload_n 2, 1) := by decide +kernel
theorem dX12_between_75 : decode cX12_between 75 = .ok (.iand, 1) := by decide +kernel
theorem dX12_between_76 : decode cX12_between 76 = .ok (.ireturn, 1) := by decide +kernel
theorem dX12_between_77 : decode cX12_between 77 = .ok (.iload_n 1, 1) := by decide +kernel
theorem dX12_between_78 : decode cX12_between 78 = .ok (.iload_n 2, 1) := by decide +kernel
theorem dX12_between_79 : decode cX12_between 79 = .ok (.ior, 1) := by decide +kernel
theorem dX12_between_80 : decode cX12_between 80 = .ok (.ireturn, 1) := by decide +kernel
theorem dX12_between_81 : decode cX12_between 81 = .ok (.iload_n 0, 1) := by decide +kernel
theorem dX12_between_82 : decode cX12_between 82 = .ok (.sipush 3000, 3) := by decide +kernel
theorem dX12_between_85 : decode cX12_between 85 = .ok (.if_icmp .ne 11, 3) := by decide +kernel
theorem dX12_between_88 : decode cX12_between 88 = .ok (.iload_n 1, 1) := by decide +kernel
theorem dX12_between_89 : decode cX12_between 89 = .ok (.i2l, 1) := by decide +kernel
theorem dX12_between_90 : decode cX12_between 90 = .ok (.iload_n 2, 1) := by decide +kernel
theorem dX12_between_91 : decode cX12_between 91 = .ok (.i2l, 1) := by decide +kernel
theorem dX12_between_92 : decode cX12_between 92 = .ok (.ladd, 1) := by decide +kernel
theorem dX12_between_93 : decode cX12_between 93 = .ok (.goto 23, 3) := by decide +kernel
theorem dX12_between_96 : decode cX12_between 96 = .ok (.iload_n 0, 1) := by decide +kernel
theorem dX12_between_97 : decode cX12_between 97 = .ok (.sipush 3001, 3) := by decide +kernel
theorem dX12_between_100 : decode cX12_between 100 = .ok (.if_icmp .ne 11, 3) := by decide +kernel
theorem dX12_between_103 : decode cX12_between 103 = .ok (.iload_n 1, 1) := by decide +kernel
theorem dX12_between_104 : decode cX12_between 104 = .ok (.i2l, 1) := by decide +kernel
theorem dX12_between_105 : decode cX12_between 105 = .ok (.iload_n 2, 1) := by decide +kernel
theorem dX12_between_106 : decode cX12_between 106 = .ok (.i2l, 1) := by decide +kernel
theorem dX12_between_107 : decode cX12_between 107 = .ok (.lsub, 1) := by decide +kernel
theorem dX12_between_108 : decode cX12_between 108 = .ok (.goto 8, 3) := by decide +kernel
theorem dX12_between_111 : decode cX12_between 111 = .ok (.iload_n 1, 1) := by decide +kernel
theorem dX12_between_112 : decode cX12_between 112 = .ok (.i2l, 1) := by decide +kernel
theorem dX12_between_113 : decode cX12_between 113 = .ok (.iload_n 2, 1) := by decide +kernel
theorem dX12_between_114 : decode cX12_between 114 = .ok (.i2l, 1) := by decide +kernel
theorem dX12_between_115 : decode cX12_between 115 = .ok (.lmul, 1) := by decide +kernel
theorem dX12_between_116 : decode cX12_between 116 = .ok (.lstore_n 3, 1) := by decide +kernel
theorem dX12_between_117 : decode cX12_between 117 = .ok (.lload_n 3, 1) := by decide +kernel
theorem dX12_between_118 : decode cX12_between 118 = .ok (.ldc2_w 225, 3) := by decide +kernel
theorem dX12_between_121 : decode cX12_between 121 = .ok (.lcmp, 1) := by decide +kernel
theorem dX12_between_122 : decode cX12_between 122 = .ok (.ifCond .le 9, 3) := by decide +kernel
theorem dX12_between_125 : decode cX12_between 125 = .ok (.ldc2_w 225, 3) := by decide +kernel
theorem dX12_between_128 : decode cX12_between 128 = .ok (.goto 18, 3) := by decide +kernel
theorem dX12_between_131 : decode cX12_between 131 = .ok (.lload_n 3, 1) := by decide +kernel
theorem dX12_between_132 : decode cX12_between 132 = .ok (.ldc2_w 227, 3) := by decide +kernel
theorem dX12_between_135 : decode cX12_between 135 = .ok (.lcmp, 1) := by decide +kernel
theorem dX12_between_136 : decode cX12_between 136 = .ok (.ifCond .ge 9, 3) := by decide +kernel
theorem dX12_between_139 : decode cX12_between 139 = .ok (.ldc2_w 227, 3) := by decide +kernel
theorem dX12_between_142 : decode cX12_between 142 = .ok (.goto 4, 3) := by decide +kernel
theorem dX12_between_145 : decode cX12_between 145 = .ok (.lload_n 3, 1) := by decide +kernel
theorem dX12_between_146 : decode cX12_between 146 = .ok (.l2i, 1) := by decide +kernel
theorem dX12_between_147 : decode cX12_between 147 = .ok (.ireturn, 1) := by decide +kernel
theorem dX12_reckons_0 : decode cX12_reckons 0 = .ok (.iconst 0, 1) := by decide +kernel
theorem dX12_reckons_1 : decode cX12_reckons 1 = .ok (.istore_n 2, 1) := by decide +kernel
theorem dX12_reckons_2 : decode cX12_reckons 2 = .ok (.iconst 0, 1) := by decide +kernel
theorem dX12_reckons_3 : decode cX12_reckons 3 = .ok (.istore_n 3, 1) := by decide +kernel
theorem dX12_reckons_4 : decode cX12_reckons 4 = .ok (.iload_n 3, 1) := by decide +kernel
theorem dX12_reckons_5 : decode cX12_reckons 5 = .ok (.aload_n 0, 1) := by decide +kernel
theorem dX12_reckons_6 : decode cX12_reckons 6 = .ok (.getfield 13, 3) := by decide +kernel
theorem dX12_reckons_9 : decode cX12_reckons 9 = .ok (.bipush 8, 2) := by decide +kernel
theorem dX12_reckons_11 : decode cX12_reckons 11 = .ok (.iload_n 1, 1) := by decide +kernel
theorem dX12_reckons_12 : decode cX12_reckons 12 = .ok (.iadd, 1) := by decide +kernel
theorem dX12_reckons_13 : decode cX12_reckons 13 = .ok (.iaload, 1) := by decide +kernel
theorem dX12_reckons_14 : decode cX12_reckons 14 = .ok (.if_icmp .ge 134, 3) := by decide +kernel
theorem dX12_reckons_17 : decode cX12_reckons 17 = .ok (.aload_n 0, 1) := by decide +kernel
theorem dX12_reckons_18 : decode cX12_reckons 18 = .ok (.getfield 13, 3) := by decide +kernel
theorem dX12_reckons_21 : decode cX12_reckons 21 = .ok (.sipush 264, 3) := by decide +kernel
theorem dX12_reckons_24 : decode cX12_reckons 24 = .ok (.aload_n 0, 1) := by decide +kernel
theorem dX12_reckons_25 : decode cX12_reckons 25 = .ok (.getfield 13, 3) := by decide +kernel
theorem dX12_reckons_28 : decode cX12_reckons 28 = .ok (.bipush 6, 2) := by decide +kernel
theorem dX12_reckons_30 : decode cX12_reckons 30 = .ok (.iload_n 1, 1) := by decide +kernel
theorem dX12_reckons_31 : decode cX12_reckons 31 = .ok (.iadd, 1) := by decide +kernel
theorem dX12_reckons_32 : decode cX12_reckons 32 = .ok (.iaload, 1) := by decide +kernel
theorem dX12_reckons_33 : decode cX12_reckons 33 = .ok (.iadd, 1) := by decide +kernel
theorem dX12_reckons_34 : decode cX12_reckons 34 = .ok (.iload_n 3, 1) := by decide +kernel
theorem dX12_reckons_35 : decode cX12_reckons 35 = .ok (.iadd, 1) := by decide +kernel
theorem dX12_reckons_36 : decode cX12_reckons 36 = .ok (.iaload, 1) := by decide +kernel
theorem dX12_reckons_37 : decode cX12_reckons 37 = .ok (.istore 4, 2) := by decide +kernel
theorem dX12_reckons_39 : decode cX12_reckons 39 = .ok (.iload 4, 2) := by decide +kernel
theorem dX12_reckons_41 : decode cX12_reckons 41 = .ok (.sipush 3000, 3) := by decide +kernel
theorem dX12_reckons_44 : decode cX12_reckons 44 = .ok (.if_icmp .ge 39, 3) := by decide +kernel
theorem dX12_reckons_47 : decode cX12_reckons 47 = .ok (.aload_n 0, 1) := by decide +kernel
theorem dX12_reckons_48 : decode cX12_reckons 48 = .ok (.getfield 30, 3) := by decide +kernel
theorem dX12_reckons_51 : decode cX12_reckons 51 = .ok (.iload_n 2, 1) := by decide +kernel
theorem dX12_reckons_52 : decode cX12_reckons 52 = .ok (.iload 4, 2) := by decide +kernel
theorem dX12_reckons_54 : decode cX12_reckons 54 = .ok (.sipush 1000, 3) := by decide +kernel
theorem dX12_reckons_57 : decode cX12_reckons 57 = .ok (.if_icmp .ge 8, 3) := by decide +kernel
theorem dX12_reckons_60 : decode cX12_reckons 60 = .ok (.iload 4, 2) := by decide +kernel
theorem dX12_reckons_62 : decode cX12_reckons 62 = .ok (.goto 14, 3) := by decide +kernel
theorem dX12_reckons_65 : decode cX12_reckons 65 = .ok (.aload_n 0, 1) := by decide +kernel
theorem dX12_reckons_66 : decode cX12_reckons 66 = .ok (.getfield 33, 3) := by decide +kernel
theorem dX12_reckons_69 : decode cX12_reckons 69 = .ok (.iload 4, 2) := by decide +kernel
theorem dX12_reckons_71 : decode cX12_reckons 71 = .ok (.sipush 1000, 3) := by decide +kernel
theorem dX12_reckons_74 : decode cX12_reckons 74 = .ok (.isub, 1) := by decide +kernel
theorem dX12_reckons_75 : decode cX12_reckons 75 = .ok (.iaload, 1) := by decide +kernel
theorem dX12_reckons_76 : decode cX12_reckons 76 = .ok (.iastore, 1) := by decide +kernel
theorem dX12_reckons_77 : decode cX12_reckons 77 = .ok (.iinc 2 1, 3) := by decide +kernel
theorem dX12_reckons_80 : decode cX12_reckons 80 = .ok (.goto 62, 3) := by decide +kernel
theorem dX12_reckons_83 : decode cX12_reckons 83 = .ok (.iload 4, 2) := by decide +kernel
theorem dX12_reckons_85 : decode cX12_reckons 85 = .ok (.sipush 3006, 3) := by decide +kernel
theorem dX12_reckons_88 : decode cX12_reckons 88 = .ok (.if_icmp .ne 24, 3) := by decide +kernel
theorem dX12_reckons_91 : decode cX12_reckons 91 = .ok (.aload_n 0, 1) := by decide +kernel
theorem dX12_reckons_92 : decode cX12_reckons 92 = .ok (.getfield 30, 3) := by decide +kernel
theorem dX12_reckons_95 : decode cX12_reckons 95 = .ok (.iload_n 2, 1) := by decide +kernel
theorem dX12_reckons_96 : decode cX12_reckons 96 = .ok (.iconst 1, 1) := by decide +kernel
theorem dX12_reckons_97 : decode cX12_reckons 97 = .ok (.isub, 1) := by decide +kernel
theorem dX12_reckons_98 : decode cX12_reckons 98 = .ok (.iconst 1, 1) := by decide +kernel
theorem dX12_reckons_99 : decode cX12_reckons 99 = .ok (.aload_n 0, 1) := by decide +kernel
theorem dX12_reckons_100 : decode cX12_reckons 100 = .ok (.getfield 30, 3) := by decide +kernel
theorem dX12_reckons_103 : decode cX12_reckons 103 = .ok (.iload_n 2, 1) := by decide +kernel
theorem dX12_reckons_104 : decode cX12_reckons 104 = .ok (.iconst 1, 1) := by decide +kernel
theorem dX12_reckons_105 : decode cX12_reckons 105 = .ok (.isub, 1) := by decide +kernel
theorem dX12_reckons_106 : decode cX12_reckons 106 = .ok (.iaload, 1) := by decide +kernel
theorem dX12_reckons_107 : decode cX12_reckons 107 = .ok (.isub, 1) := by decide +kernel
theorem dX12_reckons_108 : decode cX12_reckons 108 = .ok (.iastore, 1) := by decide +kernel
theorem dX12_reckons_109 : decode cX12_reckons 109 = .ok (.goto 33, 3) := by decide +kernel
theorem dX12_reckons_112 : decode cX12_reckons 112 = .ok (.iinc 2 (-1), 3) := by decide +kernel
theorem dX12_reckons_115 : decode cX12_reckons 115 = .ok (.aload_n 0, 1) := by decide +kernel
theorem dX12_reckons_116 : decode cX12_reckons 116 = .ok (.getfield 30, 3) := by decide +kernel
theorem dX12_reckons_119 : decode cX12_reckons 119 = .ok (.iload_n 2, 1) := by decide +kernel
theorem dX12_reckons_120 : decode cX12_reckons 120 = .ok (.iconst 1, 1) := by decide +kernel
theorem dX12_reckons_121 : decode cX12_reckons 121 = .ok (.isub, 1) := by decide +kernel
theorem dX12_reckons_122 : decode cX12_reckons 122 = .ok (.iload 4, 2) := by decide +kernel
theorem dX12_reckons_124 : decode cX12_reckons 124 = .ok (.aload_n 0, 1) := by decide +kernel
theorem dX12_reckons_125 : decode cX12_reckons 125 = .ok (.getfield 30, 3) := by decide +kernel
theorem dX12_reckons_128 : decode cX12_reckons 128 = .ok (.iload_n 2, 1) := by decide +kernel
theorem dX12_reckons_129 : decode cX12_reckons 129 = .ok (.iconst 1, 1) := by decide +kernel
theorem dX12_reckons_130 : decode cX12_reckons 130 = .ok (.isub, 1) := by decide +kernel
theorem dX12_reckons_131 : decode cX12_reckons 131 = .ok (.iaload, 1) := by decide +kernel
theorem dX12_reckons_132 : decode cX12_reckons 132 = .ok (.aload_n 0, 1) := by decide +kernel
theorem dX12_reckons_133 : decode cX12_reckons 133 = .ok (.getfield 30, 3) := by decide +kernel
theorem dX12_reckons_136 : decode cX12_reckons 136 = .ok (.iload_n 2, 1) := by decide +kernel
theorem dX12_reckons_137 : decode cX12_reckons 137 = .ok (.iaload, 1) := by decide +kernel
theorem dX12_reckons_138 : decode cX12_reckons 138 = .ok (.invokestatic 229, 3) := by decide +kernel
theorem dX12_reckons_141 : decode cX12_reckons 141 = .ok (.iastore, 1) := by decide +kernel
theorem dX12_reckons_142 : decode cX12_reckons 142 = .ok (.iinc 3 1, 3) := by decide +kernel
theorem dX12_reckons_145 : decode cX12_reckons 145 = .ok (.goto (-141), 3) := by decide +kernel
theorem dX12_reckons_148 : decode cX12_reckons 148 = .ok (.aload_n 0, 1) := by decide +kernel
theorem dX12_reckons_149 : decode cX12_reckons 149 = .ok (.getfield 30, 3) := by decide +kernel
theorem dX12_reckons_152 : decode cX12_reckons 152 = .ok (.iconst 0, 1) := by decide +kernel
theorem dX12_reckons_153 : decode cX12_reckons 153 = .ok (.iaload, 1) := by decide +kernel
theorem dX12_reckons_154 : decode cX12_reckons 154 = .ok (.ireturn, 1) := by decide +kernel
theorem dX12_asks_0 : decode cX12_asks 0 = .ok (.aload_n 0, 1) := by decide +kernel
theorem dX12_asks_1 : decode cX12_asks 1 = .ok (.getfield 33, 3) := by decide +kernel
theorem dX12_asks_4 : decode cX12_asks 4 = .ok (.iconst 0, 1) := by decide +kernel
theorem dX12_asks_5 : decode cX12_asks 5 = .ok (.iload_n 1, 1) := by decide +kernel
theorem dX12_asks_6 : decode cX12_asks 6 = .ok (.iastore, 1) := by decide +kernel
theorem dX12_asks_7 : decode cX12_asks 7 = .ok (.aload_n 0, 1) := by decide +kernel
theorem dX12_asks_8 : decode cX12_asks 8 = .ok (.getfield 33, 3) := by decide +kernel
theorem dX12_asks_11 : decode cX12_asks 11 = .ok (.iconst 1, 1) := by decide +kernel
theorem dX12_asks_12 : decode cX12_asks 12 = .ok (.aload_n 0, 1) := by decide +kernel
theorem dX12_asks_13 : decode cX12_asks 13 = .ok (.getfield 13, 3) := by decide +kernel
theorem dX12_asks_16 : decode cX12_asks 16 = .ok (.bipush 87, 2) := by decide +kernel
theorem dX12_asks_18 : decode cX12_asks 18 = .ok (.iload_n 1, 1) := by decide +kernel
theorem dX12_asks_19 : decode cX12_asks 19 = .ok (.iadd, 1) := by decide +kernel
theorem dX12_asks_20 : decode cX12_asks 20 = .ok (.iaload, 1) := by decide +kernel
theorem dX12_asks_21 : decode cX12_asks 21 = .ok (.iastore, 1) := by decide +kernel
theorem dX12_asks_22 : decode cX12_asks 22 = .ok (.aload_n 0, 1) := by decide +kernel
theorem dX12_asks_23 : decode cX12_asks 23 = .ok (.getfield 33, 3) := by decide +kernel
theorem dX12_asks_26 : decode cX12_asks 26 = .ok (.iconst 2, 1) := by decide +kernel
theorem dX12_asks_27 : decode cX12_asks 27 = .ok (.iload_n 2, 1) := by decide +kernel
theorem dX12_asks_28 : decode cX12_asks 28 = .ok (.iastore, 1) := by decide +kernel
theorem dX12_asks_29 : decode cX12_asks 29 = .ok (.aload_n 0, 1) := by decide +kernel
theorem dX12_asks_30 : decode cX12_asks 30 = .ok (.getfield 33, 3) := by decide +kernel
theorem dX12_asks_33 : decode cX12_asks 33 = .ok (.iconst 3, 1) := by decide +kernel
theorem dX12_asks_34 : decode cX12_asks 34 = .ok (.iload_n 3, 1) := by decide +kernel
theorem dX12_asks_35 : decode cX12_asks 35 = .ok (.iastore, 1) := by decide +kernel
theorem dX12_asks_36 : decode cX12_asks 36 = .ok (.aload_n 0, 1) := by decide +kernel
theorem dX12_asks_37 : decode cX12_asks 37 = .ok (.getfield 33, 3) := by decide +kernel
theorem dX12_asks_40 : decode cX12_asks 40 = .ok (.iconst 4, 1) := by decide +kernel
theorem dX12_asks_41 : decode cX12_asks 41 = .ok (.aload_n 0, 1) := by decide +kernel
theorem dX12_asks_42 : decode cX12_asks 42 = .ok (.getfield 13, 3) := by decide +kernel
theorem dX12_asks_45 : decode cX12_asks 45 = .ok (.bipush 15, 2) := by decide +kernel
theorem dX12_asks_47 : decode cX12_asks 47 = .ok (.bipush 12, 2) := by decide +kernel
theorem dX12_asks_49 : decode cX12_asks 49 = .ok (.iload_n 2, 1) := by decide +kernel
theorem dX12_asks_50 : decode cX12_asks 50 = .ok (.imul, 1) := by decide +kernel
theorem dX12_asks_51 : decode cX12_asks 51 = .ok (.iadd, 1) := by decide +kernel
theorem dX12_asks_52 : decode cX12_asks 52 = .ok (.iload_n 3, 1) := by decide +kernel
theorem dX12_asks_53 : decode cX12_asks 53 = .ok (.iadd, 1) := by decide +kernel
theorem dX12_asks_54 : decode cX12_asks 54 = .ok (.iaload, 1) := by decide +kernel
theorem dX12_asks_55 : decode cX12_asks 55 = .ok (.iastore, 1) := by decide +kernel
theorem dX12_asks_56 : decode cX12_asks 56 = .ok (.aload_n 0, 1) := by decide +kernel
theorem dX12_asks_57 : decode cX12_asks 57 = .ok (.getfield 33, 3) := by decide +kernel
theorem dX12_asks_60 : decode cX12_asks 60 = .ok (.iconst 5, 1) := by decide +kernel
theorem dX12_asks_61 : decode cX12_asks 61 = .ok (.iload 4, 2) := by decide +kernel
theorem dX12_asks_63 : decode cX12_asks 63 = .ok (.iastore, 1) := by decide +kernel
theorem dX12_asks_64 : decode cX12_asks 64 = .ok (.aload_n 0, 1) := by decide +kernel
theorem dX12_asks_65 : decode cX12_asks 65 = .ok (.getfield 33, 3) := by decide +kernel
theorem dX12_asks_68 : decode cX12_asks 68 = .ok (.bipush 6, 2) := by decide +kernel
theorem dX12_asks_70 : decode cX12_asks 70 = .ok (.iload 5, 2) := by decide +kernel
theorem dX12_asks_72 : decode cX12_asks 72 = .ok (.iastore, 1) := by decide +kernel
theorem dX12_asks_73 : decode cX12_asks 73 = .ok (.aload_n 0, 1) := by decide +kernel
theorem dX12_asks_74 : decode cX12_asks 74 = .ok (.getfield 33, 3) := by decide +kernel
theorem dX12_asks_77 : decode cX12_asks 77 = .ok (.bipush 7, 2) := by decide +kernel
theorem dX12_asks_79 : decode cX12_asks 79 = .ok (.iload 6, 2) := by decide +kernel
theorem dX12_asks_81 : decode cX12_asks 81 = .ok (.iastore, 1) := by decide +kernel
theorem dX12_asks_82 : decode cX12_asks 82 = .ok (.return_, 1) := by decide +kernel
theorem dX12_gladBy_0 : decode cX12_gladBy 0 = .ok (.aload_n 0, 1) := by decide +kernel
theorem dX12_gladBy_1 : decode cX12_gladBy 1 = .ok (.iload_n 1, 1) := by decide +kernel
theorem dX12_gladBy_2 : decode cX12_gladBy 2 = .ok (.iload_n 2, 1) := by decide +kernel
theorem dX12_gladBy_3 : decode cX12_gladBy 3 = .ok (.iload_n 3, 1) := by decide +kernel
theorem dX12_gladBy_4 : decode cX12_gladBy 4 = .ok (.iload 4, 2) := by decide +kernel
theorem dX12_gladBy_6 : decode cX12_gladBy 6 = .ok (.iload 5, 2) := by decide +kernel
theorem dX12_gladBy_8 : decode cX12_gladBy 8 = .ok (.iload 6, 2) := by decide +kernel
theorem dX12_gladBy_10 : decode cX12_gladBy 10 = .ok (.invokevirtual 233, 3) := by decide +kernel
theorem dX12_gladBy_13 : decode cX12_gladBy 13 = .ok (.aload_n 0, 1) := by decide +kernel
theorem dX12_gladBy_14 : decode cX12_gladBy 14 = .ok (.getfield 13, 3) := by decide +kernel
theorem dX12_gladBy_17 : decode cX12_gladBy 17 = .ok (.iconst 4, 1) := by decide +kernel
theorem dX12_gladBy_18 : decode cX12_gladBy 18 = .ok (.iaload, 1) := by decide +kernel
theorem dX12_gladBy_19 : decode cX12_gladBy 19 = .ok (.ifCond .ne 15, 3) := by decide +kernel
theorem dX12_gladBy_22 : decode cX12_gladBy 22 = .ok (.aload_n 0, 1) := by decide +kernel
theorem dX12_gladBy_23 : decode cX12_gladBy 23 = .ok (.getfield 33, 3) := by decide +kernel
theorem dX12_gladBy_26 : decode cX12_gladBy 26 = .ok (.iconst 4, 1) := by decide +kernel
theorem dX12_gladBy_27 : decode cX12_gladBy 27 = .ok (.iaload, 1) := by decide +kernel
theorem dX12_gladBy_28 : decode cX12_gladBy 28 = .ok (.iload 4, 2) := by decide +kernel
theorem dX12_gladBy_30 : decode cX12_gladBy 30 = .ok (.imul, 1) := by decide +kernel
theorem dX12_gladBy_31 : decode cX12_gladBy 31 = .ok (.goto 8, 3) := by decide +kernel
theorem dX12_gladBy_34 : decode cX12_gladBy 34 = .ok (.aload_n 0, 1) := by decide +kernel
theorem dX12_gladBy_35 : decode cX12_gladBy 35 = .ok (.iconst 0, 1) := by decide +kernel
theorem dX12_gladBy_36 : decode cX12_gladBy 36 = .ok (.invokevirtual 237, 3) := by decide +kernel
theorem dX12_gladBy_39 : decode cX12_gladBy 39 = .ok (.ireturn, 1) := by decide +kernel
theorem dX12_mayDraw_0 : decode cX12_mayDraw 0 = .ok (.iload 6, 2) := by decide +kernel
theorem dX12_mayDraw_2 : decode cX12_mayDraw 2 = .ok (.iload 4, 2) := by decide +kernel
theorem dX12_mayDraw_4 : decode cX12_mayDraw 4 = .ok (.isub, 1) := by decide +kernel
theorem dX12_mayDraw_5 : decode cX12_mayDraw 5 = .ok (.i2l, 1) := by decide +kernel
theorem dX12_mayDraw_6 : decode cX12_mayDraw 6 = .ok (.invokestatic 240, 3) := by decide +kernel
theorem dX12_mayDraw_9 : decode cX12_mayDraw 9 = .ok (.ifCond .ne 5, 3) := by decide +kernel
theorem dX12_mayDraw_12 : decode cX12_mayDraw 12 = .ok (.iconst 0, 1) := by decide +kernel
theorem dX12_mayDraw_13 : decode cX12_mayDraw 13 = .ok (.ireturn, 1) := by decide +kernel
theorem dX12_mayDraw_14 : decode cX12_mayDraw 14 = .ok (.aload_n 0, 1) := by decide +kernel
theorem dX12_mayDraw_15 : decode cX12_mayDraw 15 = .ok (.iload_n 1, 1) := by decide +kernel
theorem dX12_mayDraw_16 : decode cX12_mayDraw 16 = .ok (.iload_n 2, 1) := by decide +kernel
theorem dX12_mayDraw_17 : decode cX12_mayDraw 17 = .ok (.iload_n 3, 1) := by decide +kernel
theorem dX12_mayDraw_18 : decode cX12_mayDraw 18 = .ok (.iload 4, 2) := by decide +kernel
theorem dX12_mayDraw_20 : decode cX12_mayDraw 20 = .ok (.iload 5, 2) := by decide +kernel
theorem dX12_mayDraw_22 : decode cX12_mayDraw 22 = .ok (.iload 6, 2) := by decide +kernel
theorem dX12_mayDraw_24 : decode cX12_mayDraw 24 = .ok (.invokevirtual 233, 3) := by decide +kernel
theorem dX12_mayDraw_27 : decode cX12_mayDraw 27 = .ok (.aload_n 0, 1) := by decide +kernel
theorem dX12_mayDraw_28 : decode cX12_mayDraw 28 = .ok (.getfield 13, 3) := by decide +kernel
theorem dX12_mayDraw_31 : decode cX12_mayDraw 31 = .ok (.iconst 5, 1) := by decide +kernel
theorem dX12_mayDraw_32 : decode cX12_mayDraw 32 = .ok (.iaload, 1) := by decide +kernel
theorem dX12_mayDraw_33 : decode cX12_mayDraw 33 = .ok (.ifCond .eq 12, 3) := by decide +kernel
theorem dX12_mayDraw_36 : decode cX12_mayDraw 36 = .ok (.aload_n 0, 1) := by decide +kernel
theorem dX12_mayDraw_37 : decode cX12_mayDraw 37 = .ok (.iconst 1, 1) := by decide +kernel
theorem dX12_mayDraw_38 : decode cX12_mayDraw 38 = .ok (.invokevirtual 237, 3) := by decide +kernel
theorem dX12_mayDraw_41 : decode cX12_mayDraw 41 = .ok (.iconst 1, 1) := by decide +kernel
theorem dX12_mayDraw_42 : decode cX12_mayDraw 42 = .ok (.if_icmp .ne 7, 3) := by decide +kernel
theorem dX12_mayDraw_45 : decode cX12_mayDraw 45 = .ok (.iconst 1, 1) := by decide +kernel
theorem dX12_mayDraw_46 : decode cX12_mayDraw 46 = .ok (.goto 4, 3) := by decide +kernel
theorem dX12_mayDraw_49 : decode cX12_mayDraw 49 = .ok (.iconst 0, 1) := by decide +kernel
theorem dX12_mayDraw_50 : decode cX12_mayDraw 50 = .ok (.ireturn, 1) := by decide +kernel
theorem dX12_player_0 : decode cX12_player 0 = .ok (.aload_n 0, 1) := by decide +kernel
theorem dX12_player_1 : decode cX12_player 1 = .ok (.iconst 0, 1) := by decide +kernel
theorem dX12_player_2 : decode cX12_player 2 = .ok (.putfield 1, 3) := by decide +kernel
theorem dX12_player_5 : decode cX12_player 5 = .ok (.aload_n 0, 1) := by decide +kernel
theorem dX12_player_6 : decode cX12_player 6 = .ok (.iload_n 1, 1) := by decide +kernel
theorem dX12_player_7 : decode cX12_player 7 = .ok (.i2l, 1) := by decide +kernel
theorem dX12_player_8 : decode cX12_player 8 = .ok (.invokevirtual 244, 3) := by decide +kernel
theorem dX12_player_11 : decode cX12_player 11 = .ok (.ifCond .ne 6, 3) := by decide +kernel
theorem dX12_player_14 : decode cX12_player 14 = .ok (.ldc 247, 2) := by decide +kernel
theorem dX12_player_16 : decode cX12_player 16 = .ok (.ireturn, 1) := by decide +kernel
theorem dX12_player_17 : decode cX12_player 17 = .ok (.iload_n 2, 1) := by decide +kernel
theorem dX12_player_18 : decode cX12_player 18 = .ok (.tableswitch 72 0 3 #[30, 40, 50, 60], 30) := by decide +kernel
theorem dX12_player_48 : decode cX12_player 48 = .ok (.aload_n 0, 1) := by decide +kernel
theorem dX12_player_49 : decode cX12_player 49 = .ok (.getfield 13, 3) := by decide +kernel
theorem dX12_player_52 : decode cX12_player 52 = .ok (.bipush 77, 2) := by decide +kernel
theorem dX12_player_54 : decode cX12_player 54 = .ok (.iload_n 1, 1) := by decide +kernel
theorem dX12_player_55 : decode cX12_player 55 = .ok (.iadd, 1) := by decide +kernel
theorem dX12_player_56 : decode cX12_player 56 = .ok (.iaload, 1) := by decide +kernel
theorem dX12_player_57 : decode cX12_player 57 = .ok (.ireturn, 1) := by decide +kernel
theorem dX12_player_58 : decode cX12_player 58 = .ok (.aload_n 0, 1) := by decide +kernel
theorem dX12_player_59 : decode cX12_player 59 = .ok (.getfield 13, 3) := by decide +kernel
theorem dX12_player_62 : decode cX12_player 62 = .ok (.bipush 82, 2) := by decide +kernel
theorem dX12_player_64 : decode cX12_player 64 = .ok (.iload_n 1, 1) := by decide +kernel
theorem dX12_player_65 : decode cX12_player 65 = .ok (.iadd, 1) := by decide +kernel
theorem dX12_player_66 : decode cX12_player 66 = .ok (.iaload, 1) := by decide +kernel
theorem dX12_player_67 : decode cX12_player 67 = .ok (.ireturn, 1) := by decide +kernel
theorem dX12_player_68 : decode cX12_player 68 = .ok (.aload_n 0, 1) := by decide +kernel
theorem dX12_player_69 : decode cX12_player 69 = .ok (.getfield 13, 3) := by decide +kernel
theorem dX12_player_72 : decode cX12_player 72 = .ok (.bipush 87, 2) := by decide +kernel
theorem dX12_player_74 : decode cX12_player 74 = .ok (.iload_n 1, 1) := by decide +kernel
theorem dX12_player_75 : decode cX12_player 75 = .ok (.iadd, 1) := by decide +kernel
theorem dX12_player_76 : decode cX12_player 76 = .ok (.iaload, 1) := by decide +kernel
theorem dX12_player_77 : decode cX12_player 77 = .ok (.ireturn, 1) := by decide +kernel
theorem dX12_player_78 : decode cX12_player 78 = .ok (.aload_n 0, 1) := by decide +kernel
theorem dX12_player_79 : decode cX12_player 79 = .ok (.getfield 13, 3) := by decide +kernel
theorem dX12_player_82 : decode cX12_player 82 = .ok (.bipush 75, 2) := by decide +kernel
theorem dX12_player_84 : decode cX12_player 84 = .ok (.iaload, 1) := by decide +kernel
theorem dX12_player_85 : decode cX12_player 85 = .ok (.iload_n 1, 1) := by decide +kernel
theorem dX12_player_86 : decode cX12_player 86 = .ok (.ishr, 1) := by decide +kernel
theorem dX12_player_87 : decode cX12_player 87 = .ok (.iconst 1, 1) := by decide +kernel
theorem dX12_player_88 : decode cX12_player 88 = .ok (.iand, 1) := by decide +kernel
theorem dX12_player_89 : decode cX12_player 89 = .ok (.ireturn, 1) := by decide +kernel
theorem dX12_player_90 : decode cX12_player 90 = .ok (.ldc 247, 2) := by decide +kernel
theorem dX12_player_92 : decode cX12_player 92 = .ok (.ireturn, 1) := by decide +kernel
theorem dX12_isBar_0 : decode cX12_isBar 0 = .ok (.aload_n 0, 1) := by decide +kernel
theorem dX12_isBar_1 : decode cX12_isBar 1 = .ok (.iload_n 1, 1) := by decide +kernel
theorem dX12_isBar_2 : decode cX12_isBar 2 = .ok (.i2l, 1) := by decide +kernel
theorem dX12_isBar_3 : decode cX12_isBar 3 = .ok (.invokevirtual 248, 3) := by decide +kernel
theorem dX12_isBar_6 : decode cX12_isBar 6 = .ok (.ifCond .eq 28, 3) := by decide +kernel
theorem dX12_isBar_9 : decode cX12_isBar 9 = .ok (.iload_n 2, 1) := by decide +kernel
theorem dX12_isBar_10 : decode cX12_isBar 10 = .ok (.i2l, 1) := by decide +kernel
theorem dX12_isBar_11 : decode cX12_isBar 11 = .ok (.lconst 0, 1) := by decide +kernel
theorem dX12_isBar_12 : decode cX12_isBar 12 = .ok (.aload_n 0, 1) := by decide +kernel
theorem dX12_isBar_13 : decode cX12_isBar 13 = .ok (.getfield 13, 3) := by decide +kernel
theorem dX12_isBar_16 : decode cX12_isBar 16 = .ok (.bipush 10, 2) := by decide +kernel
theorem dX12_isBar_18 : decode cX12_isBar 18 = .ok (.iload_n 1, 1) := by decide +kernel
theorem dX12_isBar_19 : decode cX12_isBar 19 = .ok (.iadd, 1) := by decide +kernel
theorem dX12_isBar_20 : decode cX12_isBar 20 = .ok (.iaload, 1) := by decide +kernel
theorem dX12_isBar_21 : decode cX12_isBar 21 = .ok (.iconst 1, 1) := by decide +kernel
theorem dX12_isBar_22 : decode cX12_isBar 22 = .ok (.isub, 1) := by decide +kernel
theorem dX12_isBar_23 : decode cX12_isBar 23 = .ok (.i2l, 1) := by decide +kernel
theorem dX12_isBar_24 : decode cX12_isBar 24 = .ok (.invokestatic 152, 3) := by decide +kernel
theorem dX12_isBar_27 : decode cX12_isBar 27 = .ok (.ifCond .eq 7, 3) := by decide +kernel
theorem dX12_isBar_30 : decode cX12_isBar 30 = .ok (.iconst 1, 1) := by decide +kernel
theorem dX12_isBar_31 : decode cX12_isBar 31 = .ok (.goto 4, 3) := by decide +kernel
theorem dX12_isBar_34 : decode cX12_isBar 34 = .ok (.iconst 0, 1) := by decide +kernel
theorem dX12_isBar_35 : decode cX12_isBar 35 = .ok (.ireturn, 1) := by decide +kernel
theorem dX12_wants_0 : decode cX12_wants 0 = .ok (.aload_n 0, 1) := by decide +kernel
theorem dX12_wants_1 : decode cX12_wants 1 = .ok (.iconst 0, 1) := by decide +kernel
theorem dX12_wants_2 : decode cX12_wants 2 = .ok (.putfield 1, 3) := by decide +kernel
theorem dX12_wants_5 : decode cX12_wants 5 = .ok (.aload_n 0, 1) := by decide +kernel
theorem dX12_wants_6 : decode cX12_wants 6 = .ok (.iload_n 1, 1) := by decide +kernel
theorem dX12_wants_7 : decode cX12_wants 7 = .ok (.iload_n 2, 1) := by decide +kernel
theorem dX12_wants_8 : decode cX12_wants 8 = .ok (.invokevirtual 251, 3) := by decide +kernel
theorem dX12_wants_11 : decode cX12_wants 11 = .ok (.ifCond .eq 20, 3) := by decide +kernel
theorem dX12_wants_14 : decode cX12_wants 14 = .ok (.aload_n 0, 1) := by decide +kernel
theorem dX12_wants_15 : decode cX12_wants 15 = .ok (.getfield 13, 3) := by decide +kernel
theorem dX12_wants_18 : decode cX12_wants 18 = .ok (.bipush 15, 2) := by decide +kernel
theorem dX12_wants_20 : decode cX12_wants 20 = .ok (.bipush 12, 2) := by decide +kernel
theorem dX12_wants_22 : decode cX12_wants 22 = .ok (.iload_n 1, 1) := by decide +kernel
theorem dX12_wants_23 : decode cX12_wants 23 = .ok (.imul, 1) := by decide +kernel
theorem dX12_wants_24 : decode cX12_wants 24 = .ok (.iadd, 1) := by decide +kernel
theorem dX12_wants_25 : decode cX12_wants 25 = .ok (.iload_n 2, 1) := by decide +kernel
theorem dX12_wants_26 : decode cX12_wants 26 = .ok (.iadd, 1) := by decide +kernel
theorem dX12_wants_27 : decode cX12_wants 27 = .ok (.iaload, 1) := by decide +kernel
theorem dX12_wants_28 : decode cX12_wants 28 = .ok (.goto 5, 3) := by decide +kernel
theorem dX12_wants_31 : decode cX12_wants 31 = .ok (.ldc 247, 2) := by decide +kernel
theorem dX12_wants_33 : decode cX12_wants 33 = .ok (.ireturn, 1) := by decide +kernel
theorem dX12_bars_0 : decode cX12_bars 0 = .ok (.aload_n 0, 1) := by decide +kernel
theorem dX12_bars_1 : decode cX12_bars 1 = .ok (.iconst 0, 1) := by decide +kernel
theorem dX12_bars_2 : decode cX12_bars 2 = .ok (.putfield 1, 3) := by decide +kernel
theorem dX12_bars_5 : decode cX12_bars 5 = .ok (.aload_n 0, 1) := by decide +kernel
theorem dX12_bars_6 : decode cX12_bars 6 = .ok (.iload_n 1, 1) := by decide +kernel
theorem dX12_bars_7 : decode cX12_bars 7 = .ok (.i2l, 1) := by decide +kernel
theorem dX12_bars_8 : decode cX12_bars 8 = .ok (.invokevirtual 248, 3) := by decide +kernel
theorem dX12_bars_11 : decode cX12_bars 11 = .ok (.ifCond .eq 15, 3) := by decide +kernel
theorem dX12_bars_14 : decode cX12_bars 14 = .ok (.aload_n 0, 1) := by decide +kernel
theorem dX12_bars_15 : decode cX12_bars 15 = .ok (.getfield 13, 3) := by decide +kernel
theorem dX12_bars_18 : decode cX12_bars 18 = .ok (.bipush 10, 2) := by decide +kernel
theorem dX12_bars_20 : decode cX12_bars 20 = .ok (.iload_n 1, 1) := by decide +kernel
theorem dX12_bars_21 : decode cX12_bars 21 = .ok (.iadd, 1) := by decide +kernel
theorem dX12_bars_22 : decode cX12_bars 22 = .ok (.iaload, 1) := by decide +kernel
theorem dX12_bars_23 : decode cX12_bars 23 = .ok (.goto 5, 3) := by decide +kernel
theorem dX12_bars_26 : decode cX12_bars 26 = .ok (.ldc 247, 2) := by decide +kernel
theorem dX12_bars_28 : decode cX12_bars 28 = .ok (.ireturn, 1) := by decide +kernel
theorem dX12_glad_0 : decode cX12_glad 0 = .ok (.aload_n 0, 1) := by decide +kernel
theorem dX12_glad_1 : decode cX12_glad 1 = .ok (.iconst 0, 1) := by decide +kernel
theorem dX12_glad_2 : decode cX12_glad 2 = .ok (.putfield 1, 3) := by decide +kernel
theorem dX12_glad_5 : decode cX12_glad 5 = .ok (.aload_n 0, 1) := by decide +kernel
theorem dX12_glad_6 : decode cX12_glad 6 = .ok (.iload_n 1, 1) := by decide +kernel
theorem dX12_glad_7 : decode cX12_glad 7 = .ok (.i2l, 1) := by decide +kernel
theorem dX12_glad_8 : decode cX12_glad 8 = .ok (.invokevirtual 244, 3) := by decide +kernel
theorem dX12_glad_11 : decode cX12_glad 11 = .ok (.ifCond .eq 12, 3) := by decide +kernel
theorem dX12_glad_14 : decode cX12_glad 14 = .ok (.aload_n 0, 1) := by decide +kernel
theorem dX12_glad_15 : decode cX12_glad 15 = .ok (.iload_n 2, 1) := by decide +kernel
theorem dX12_glad_16 : decode cX12_glad 16 = .ok (.iload_n 3, 1) := by decide +kernel
theorem dX12_glad_17 : decode cX12_glad 17 = .ok (.invokevirtual 251, 3) := by decide +kernel
theorem dX12_glad_20 : decode cX12_glad 20 = .ok (.ifCond .ne 6, 3) := by decide +kernel
theorem dX12_glad_23 : decode cX12_glad 23 = .ok (.ldc 247, 2) := by decide +kernel
theorem dX12_glad_25 : decode cX12_glad 25 = .ok (.ireturn, 1) := by decide +kernel
theorem dX12_glad_26 : decode cX12_glad 26 = .ok (.iload 4, 2) := by decide +kernel
theorem dX12_glad_28 : decode cX12_glad 28 = .ok (.i2l, 1) := by decide +kernel
theorem dX12_glad_29 : decode cX12_glad 29 = .ok (.invokestatic 255, 3) := by decide +kernel
theorem dX12_glad_32 : decode cX12_glad 32 = .ok (.ifCond .eq 35, 3) := by decide +kernel
theorem dX12_glad_35 : decode cX12_glad 35 = .ok (.iload 5, 2) := by decide +kernel
theorem dX12_glad_37 : decode cX12_glad 37 = .ok (.i2l, 1) := by decide +kernel
theorem dX12_glad_38 : decode cX12_glad 38 = .ok (.invokestatic 255, 3) := by decide +kernel
theorem dX12_glad_41 : decode cX12_glad 41 = .ok (.ifCond .eq 26, 3) := by decide +kernel
theorem dX12_glad_44 : decode cX12_glad 44 = .ok (.aload_n 0, 1) := by decide +kernel
theorem dX12_glad_45 : decode cX12_glad 45 = .ok (.iload_n 1, 1) := by decide +kernel
theorem dX12_glad_46 : decode cX12_glad 46 = .ok (.iload_n 2, 1) := by decide +kernel
theorem dX12_glad_47 : decode cX12_glad 47 = .ok (.iload_n 3, 1) := by decide +kernel
theorem dX12_glad_48 : decode cX12_glad 48 = .ok (.iload 4, 2) := by decide +kernel
theorem dX12_glad_50 : decode cX12_glad 50 = .ok (.iload 5, 2) := by decide +kernel
theorem dX12_glad_52 : decode cX12_glad 52 = .ok (.aload_n 0, 1) := by decide +kernel
theorem dX12_glad_53 : decode cX12_glad 53 = .ok (.getfield 13, 3) := by decide +kernel
theorem dX12_glad_56 : decode cX12_glad 56 = .ok (.bipush 77, 2) := by decide +kernel
theorem dX12_glad_58 : decode cX12_glad 58 = .ok (.iload_n 1, 1) := by decide +kernel
theorem dX12_glad_59 : decode cX12_glad 59 = .ok (.iadd, 1) := by decide +kernel
theorem dX12_glad_60 : decode cX12_glad 60 = .ok (.iaload, 1) := by decide +kernel
theorem dX12_glad_61 : decode cX12_glad 61 = .ok (.invokevirtual 258, 3) := by decide +kernel
theorem dX12_glad_64 : decode cX12_glad 64 = .ok (.goto 5, 3) := by decide +kernel
theorem dX12_glad_67 : decode cX12_glad 67 = .ok (.ldc 206, 2) := by decide +kernel
theorem dX12_glad_69 : decode cX12_glad 69 = .ok (.ireturn, 1) := by decide +kernel
theorem dX12_spot_0 : decode cX12_spot 0 = .ok (.iconst 5, 1) := by decide +kernel
theorem dX12_spot_1 : decode cX12_spot 1 = .ok (.iload_n 0, 1) := by decide +kernel
theorem dX12_spot_2 : decode cX12_spot 2 = .ok (.imul, 1) := by decide +kernel
theorem dX12_spot_3 : decode cX12_spot 3 = .ok (.iload_n 1, 1) := by decide +kernel
theorem dX12_spot_4 : decode cX12_spot 4 = .ok (.iadd, 1) := by decide +kernel
theorem dX12_spot_5 : decode cX12_spot 5 = .ok (.iconst 2, 1) := by decide +kernel
theorem dX12_spot_6 : decode cX12_spot 6 = .ok (.iadd, 1) := by decide +kernel
theorem dX12_spot_7 : decode cX12_spot 7 = .ok (.bipush 41, 2) := by decide +kernel
theorem dX12_spot_9 : decode cX12_spot 9 = .ok (.imul, 1) := by decide +kernel
theorem dX12_spot_10 : decode cX12_spot 10 = .ok (.iload_n 2, 1) := by decide +kernel
theorem dX12_spot_11 : decode cX12_spot 11 = .ok (.iadd, 1) := by decide +kernel
theorem dX12_spot_12 : decode cX12_spot 12 = .ok (.bipush 20, 2) := by decide +kernel
theorem dX12_spot_14 : decode cX12_spot 14 = .ok (.iadd, 1) := by decide +kernel
theorem dX12_spot_15 : decode cX12_spot 15 = .ok (.ireturn, 1) := by decide +kernel
theorem dX12_gladAt_0 : decode cX12_gladAt 0 = .ok (.aload_n 0, 1) := by decide +kernel
theorem dX12_gladAt_1 : decode cX12_gladAt 1 = .ok (.getfield 36, 3) := by decide +kernel
theorem dX12_gladAt_4 : decode cX12_gladAt 4 = .ok (.iconst 5, 1) := by decide +kernel
theorem dX12_gladAt_5 : decode cX12_gladAt 5 = .ok (.iload_n 1, 1) := by decide +kernel
theorem dX12_gladAt_6 : decode cX12_gladAt 6 = .ok (.iload_n 2, 1) := by decide +kernel
theorem dX12_gladAt_7 : decode cX12_gladAt 7 = .ok (.iload_n 3, 1) := by decide +kernel
theorem dX12_gladAt_8 : decode cX12_gladAt 8 = .ok (.invokestatic 262, 3) := by decide +kernel
theorem dX12_gladAt_11 : decode cX12_gladAt 11 = .ok (.imul, 1) := by decide +kernel
theorem dX12_gladAt_12 : decode cX12_gladAt 12 = .ok (.iload 4, 2) := by decide +kernel
theorem dX12_gladAt_14 : decode cX12_gladAt 14 = .ok (.iadd, 1) := by decide +kernel
theorem dX12_gladAt_15 : decode cX12_gladAt 15 = .ok (.iconst 2, 1) := by decide +kernel
theorem dX12_gladAt_16 : decode cX12_gladAt 16 = .ok (.iadd, 1) := by decide +kernel
theorem dX12_gladAt_17 : decode cX12_gladAt 17 = .ok (.iaload, 1) := by decide +kernel
theorem dX12_gladAt_18 : decode cX12_gladAt 18 = .ok (.ireturn, 1) := by decide +kernel
theorem dX12_laysGlads_0 : decode cX12_laysGlads 0 = .ok (.iconst 0, 1) := by decide +kernel
theorem dX12_laysGlads_1 : decode cX12_laysGlads 1 = .ok (.istore_n 3, 1) := by decide +kernel
theorem dX12_laysGlads_2 : decode cX12_laysGlads 2 = .ok (.iload_n 3, 1) := by decide +kernel
theorem dX12_laysGlads_3 : decode cX12_laysGlads 3 = .ok (.aload_n 0, 1) := by decide +kernel
theorem dX12_laysGlads_4 : decode cX12_laysGlads 4 = .ok (.getfield 13, 3) := by decide +kernel
theorem dX12_laysGlads_7 : decode cX12_laysGlads 7 = .ok (.bipush 10, 2) := by decide +kernel
theorem dX12_laysGlads_9 : decode cX12_laysGlads 9 = .ok (.iload_n 2, 1) := by decide +kernel
theorem dX12_laysGlads_10 : decode cX12_laysGlads 10 = .ok (.iadd, 1) := by decide +kernel
theorem dX12_laysGlads_11 : decode cX12_laysGlads 11 = .ok (.iaload, 1) := by decide +kernel
theorem dX12_laysGlads_12 : decode cX12_laysGlads 12 = .ok (.if_icmp .ge 53, 3) := by decide +kernel
theorem dX12_laysGlads_15 : decode cX12_laysGlads 15 = .ok (.bipush (-2), 2) := by decide +kernel
theorem dX12_laysGlads_17 : decode cX12_laysGlads 17 = .ok (.istore 4, 2) := by decide +kernel
theorem dX12_laysGlads_19 : decode cX12_laysGlads 19 = .ok (.iload 4, 2) := by decide +kernel
theorem dX12_laysGlads_21 : decode cX12_laysGlads 21 = .ok (.iconst 2, 1) := by decide +kernel
theorem dX12_laysGlads_22 : decode cX12_laysGlads 22 = .ok (.if_icmp .gt 37, 3) := by decide +kernel
theorem dX12_laysGlads_25 : decode cX12_laysGlads 25 = .ok (.bipush (-20), 2) := by decide +kernel
theorem dX12_laysGlads_27 : decode cX12_laysGlads 27 = .ok (.istore 5, 2) := by decide +kernel
theorem dX12_laysGlads_29 : decode cX12_laysGlads 29 = .ok (.iload 5, 2) := by decide +kernel
theorem dX12_laysGlads_31 : decode cX12_laysGlads 31 = .ok (.bipush 20, 2) := by decide +kernel
theorem dX12_laysGlads_33 : decode cX12_laysGlads 33 = .ok (.if_icmp .gt 20, 3) := by decide +kernel
theorem dX12_laysGlads_36 : decode cX12_laysGlads 36 = .ok (.aload_n 0, 1) := by decide +kernel
theorem dX12_laysGlads_37 : decode cX12_laysGlads 37 = .ok (.iload_n 1, 1) := by decide +kernel
theorem dX12_laysGlads_38 : decode cX12_laysGlads 38 = .ok (.iload_n 2, 1) := by decide +kernel
theorem dX12_laysGlads_39 : decode cX12_laysGlads 39 = .ok (.iload_n 3, 1) := by decide +kernel
theorem dX12_laysGlads_40 : decode cX12_laysGlads 40 = .ok (.iload 4, 2) := by decide +kernel
theorem dX12_laysGlads_42 : decode cX12_laysGlads 42 = .ok (.iload 5, 2) := by decide +kernel
theorem dX12_laysGlads_44 : decode cX12_laysGlads 44 = .ok (.invokevirtual 265, 3) := by decide +kernel
theorem dX12_laysGlads_47 : decode cX12_laysGlads 47 = .ok (.iinc 5 1, 3) := by decide +kernel
theorem dX12_laysGlads_50 : decode cX12_laysGlads 50 = .ok (.goto (-21), 3) := by decide +kernel
theorem dX12_laysGlads_53 : decode cX12_laysGlads 53 = .ok (.iinc 4 1, 3) := by decide +kernel
theorem dX12_laysGlads_56 : decode cX12_laysGlads 56 = .ok (.goto (-37), 3) := by decide +kernel
theorem dX12_laysGlads_59 : decode cX12_laysGlads 59 = .ok (.iinc 3 1, 3) := by decide +kernel
theorem dX12_laysGlads_62 : decode cX12_laysGlads 62 = .ok (.goto (-60), 3) := by decide +kernel
theorem dX12_laysGlads_65 : decode cX12_laysGlads 65 = .ok (.return_, 1) := by decide +kernel
theorem dX12_laysGlad_0 : decode cX12_laysGlad 0 = .ok (.bipush (-2), 2) := by decide +kernel
theorem dX12_laysGlad_2 : decode cX12_laysGlad 2 = .ok (.istore 6, 2) := by decide +kernel
theorem dX12_laysGlad_4 : decode cX12_laysGlad 4 = .ok (.iload 6, 2) := by decide +kernel
theorem dX12_laysGlad_6 : decode cX12_laysGlad 6 = .ok (.iconst 2, 1) := by decide +kernel
theorem dX12_laysGlad_7 : decode cX12_laysGlad 7 = .ok (.if_icmp .gt 64, 3) := by decide +kernel
theorem dX12_laysGlad_10 : decode cX12_laysGlad 10 = .ok (.aload_n 0, 1) := by decide +kernel
theorem dX12_laysGlad_11 : decode cX12_laysGlad 11 = .ok (.getfield 36, 3) := by decide +kernel
theorem dX12_laysGlad_14 : decode cX12_laysGlad 14 = .ok (.iconst 5, 1) := by decide +kernel
theorem dX12_laysGlad_15 : decode cX12_laysGlad 15 = .ok (.iload_n 3, 1) := by decide +kernel
theorem dX12_laysGlad_16 : decode cX12_laysGlad 16 = .ok (.iload 4, 2) := by decide +kernel
theorem dX12_laysGlad_18 : decode cX12_laysGlad 18 = .ok (.iload 5, 2) := by decide +kernel
theorem dX12_laysGlad_20 : decode cX12_laysGlad 20 = .ok (.invokestatic 262, 3) := by decide +kernel
theorem dX12_laysGlad_23 : decode cX12_laysGlad 23 = .ok (.imul, 1) := by decide +kernel
theorem dX12_laysGlad_24 : decode cX12_laysGlad 24 = .ok (.iload 6, 2) := by decide +kernel
theorem dX12_laysGlad_26 : decode cX12_laysGlad 26 = .ok (.iadd, 1) := by decide +kernel
theorem dX12_laysGlad_27 : decode cX12_laysGlad 27 = .ok (.iconst 2, 1) := by decide +kernel
theorem dX12_laysGlad_28 : decode cX12_laysGlad 28 = .ok (.iadd, 1) := by decide +kernel
theorem dX12_laysGlad_29 : decode cX12_laysGlad 29 = .ok (.aload_n 0, 1) := by decide +kernel
theorem dX12_laysGlad_30 : decode cX12_laysGlad 30 = .ok (.iload_n 1, 1) := by decide +kernel
theorem dX12_laysGlad_31 : decode cX12_laysGlad 31 = .ok (.iload_n 2, 1) := by decide +kernel
theorem dX12_laysGlad_32 : decode cX12_laysGlad 32 = .ok (.iload_n 3, 1) := by decide +kernel
theorem dX12_laysGlad_33 : decode cX12_laysGlad 33 = .ok (.iload 6, 2) := by decide +kernel
theorem dX12_laysGlad_35 : decode cX12_laysGlad 35 = .ok (.iload 4, 2) := by decide +kernel
theorem dX12_laysGlad_37 : decode cX12_laysGlad 37 = .ok (.iload 5, 2) := by decide +kernel
theorem dX12_laysGlad_39 : decode cX12_laysGlad 39 = .ok (.invokevirtual 269, 3) := by decide +kernel
theorem dX12_laysGlad_42 : decode cX12_laysGlad 42 = .ok (.ifCond .eq 19, 3) := by decide +kernel
theorem dX12_laysGlad_45 : decode cX12_laysGlad 45 = .ok (.aload_n 0, 1) := by decide +kernel
theorem dX12_laysGlad_46 : decode cX12_laysGlad 46 = .ok (.iload_n 1, 1) := by decide +kernel
theorem dX12_laysGlad_47 : decode cX12_laysGlad 47 = .ok (.iload_n 2, 1) := by decide +kernel
theorem dX12_laysGlad_48 : decode cX12_laysGlad 48 = .ok (.iload_n 3, 1) := by decide +kernel
theorem dX12_laysGlad_49 : decode cX12_laysGlad 49 = .ok (.iload 6, 2) := by decide +kernel
theorem dX12_laysGlad_51 : decode cX12_laysGlad 51 = .ok (.iload 4, 2) := by decide +kernel
theorem dX12_laysGlad_53 : decode cX12_laysGlad 53 = .ok (.iload 5, 2) := by decide +kernel
theorem dX12_laysGlad_55 : decode cX12_laysGlad 55 = .ok (.invokevirtual 258, 3) := by decide +kernel
theorem dX12_laysGlad_58 : decode cX12_laysGlad 58 = .ok (.goto 6, 3) := by decide +kernel
theorem dX12_laysGlad_61 : decode cX12_laysGlad 61 = .ok (.ldc_w 273, 3) := by decide +kernel
theorem dX12_laysGlad_64 : decode cX12_laysGlad 64 = .ok (.iastore, 1) := by decide +kernel
theorem dX12_laysGlad_65 : decode cX12_laysGlad 65 = .ok (.iinc 6 1, 3) := by decide +kernel
theorem dX12_laysGlad_68 : decode cX12_laysGlad 68 = .ok (.goto (-64), 3) := by decide +kernel
theorem dX12_laysGlad_71 : decode cX12_laysGlad 71 = .ok (.return_, 1) := by decide +kernel
theorem dX12_isKept_0 : decode cX12_isKept 0 = .ok (.aload_n 0, 1) := by decide +kernel
theorem dX12_isKept_1 : decode cX12_isKept 1 = .ok (.getfield 45, 3) := by decide +kernel
theorem dX12_isKept_4 : decode cX12_isKept 4 = .ok (.iload_n 1, 1) := by decide +kernel
theorem dX12_isKept_5 : decode cX12_isKept 5 = .ok (.iaload, 1) := by decide +kernel
theorem dX12_isKept_6 : decode cX12_isKept 6 = .ok (.bipush 9, 2) := by decide +kernel
theorem dX12_isKept_8 : decode cX12_isKept 8 = .ok (.if_icmp .eq 29, 3) := by decide +kernel
theorem dX12_isKept_11 : decode cX12_isKept 11 = .ok (.iload_n 2, 1) := by decide +kernel
theorem dX12_isKept_12 : decode cX12_isKept 12 = .ok (.aload_n 0, 1) := by decide +kernel
theorem dX12_isKept_13 : decode cX12_isKept 13 = .ok (.getfield 45, 3) := by decide +kernel
theorem dX12_isKept_16 : decode cX12_isKept 16 = .ok (.iload_n 1, 1) := by decide +kernel
theorem dX12_isKept_17 : decode cX12_isKept 17 = .ok (.iaload, 1) := by decide +kernel
theorem dX12_isKept_18 : decode cX12_isKept 18 = .ok (.isub, 1) := by decide +kernel
theorem dX12_isKept_19 : decode cX12_isKept 19 = .ok (.i2l, 1) := by decide +kernel
theorem dX12_isKept_20 : decode cX12_isKept 20 = .ok (.aload_n 0, 1) := by decide +kernel
theorem dX12_isKept_21 : decode cX12_isKept 21 = .ok (.getfield 274, 3) := by decide +kernel
theorem dX12_isKept_24 : decode cX12_isKept 24 = .ok (.ineg, 1) := by decide +kernel
theorem dX12_isKept_25 : decode cX12_isKept 25 = .ok (.i2l, 1) := by decide +kernel
theorem dX12_isKept_26 : decode cX12_isKept 26 = .ok (.aload_n 0, 1) := by decide +kernel
theorem dX12_isKept_27 : decode cX12_isKept 27 = .ok (.getfield 274, 3) := by decide +kernel
theorem dX12_isKept_30 : decode cX12_isKept 30 = .ok (.i2l, 1) := by decide +kernel
theorem dX12_isKept_31 : decode cX12_isKept 31 = .ok (.invokestatic 152, 3) := by decide +kernel
theorem dX12_isKept_34 : decode cX12_isKept 34 = .ok (.ifCond .eq 7, 3) := by decide +kernel
theorem dX12_isKept_37 : decode cX12_isKept 37 = .ok (.iconst 1, 1) := by decide +kernel
theorem dX12_isKept_38 : decode cX12_isKept 38 = .ok (.goto 4, 3) := by decide +kernel
theorem dX12_isKept_41 : decode cX12_isKept 41 = .ok (.iconst 0, 1) := by decide +kernel
theorem dX12_isKept_42 : decode cX12_isKept 42 = .ok (.ireturn, 1) := by decide +kernel
theorem dX12_keepsAny_0 : decode cX12_keepsAny 0 = .ok (.iconst 0, 1) := by decide +kernel
theorem dX12_keepsAny_1 : decode cX12_keepsAny 1 = .ok (.istore_n 1, 1) := by decide +kernel
theorem dX12_keepsAny_2 : decode cX12_keepsAny 2 = .ok (.iload_n 1, 1) := by decide +kernel
theorem dX12_keepsAny_3 : decode cX12_keepsAny 3 = .ok (.bipush 12, 2) := by decide +kernel
theorem dX12_keepsAny_5 : decode cX12_keepsAny 5 = .ok (.if_icmp .ge 17, 3) := by decide +kernel
theorem dX12_keepsAny_8 : decode cX12_keepsAny 8 = .ok (.aload_n 0, 1) := by decide +kernel
theorem dX12_keepsAny_9 : decode cX12_keepsAny 9 = .ok (.getfield 45, 3) := by decide +kernel
theorem dX12_keepsAny_12 : decode cX12_keepsAny 12 = .ok (.iload_n 1, 1) := by decide +kernel
theorem dX12_keepsAny_13 : decode cX12_keepsAny 13 = .ok (.bipush 9, 2) := by decide +kernel
theorem dX12_keepsAny_15 : decode cX12_keepsAny 15 = .ok (.iastore, 1) := by decide +kernel
theorem dX12_keepsAny_16 : decode cX12_keepsAny 16 = .ok (.iinc 1 1, 3) := by decide +kernel
theorem dX12_keepsAny_19 : decode cX12_keepsAny 19 = .ok (.goto (-17), 3) := by decide +kernel
theorem dX12_keepsAny_22 : decode cX12_keepsAny 22 = .ok (.aload_n 0, 1) := by decide +kernel
theorem dX12_keepsAny_23 : decode cX12_keepsAny 23 = .ok (.iconst 0, 1) := by decide +kernel
theorem dX12_keepsAny_24 : decode cX12_keepsAny 24 = .ok (.putfield 274, 3) := by decide +kernel
theorem dX12_keepsAny_27 : decode cX12_keepsAny 27 = .ok (.return_, 1) := by decide +kernel
theorem dX12_goesBy_0 : decode cX12_goesBy 0 = .ok (.aload_n 0, 1) := by decide +kernel
theorem dX12_goesBy_1 : decode cX12_goesBy 1 = .ok (.iload_n 1, 1) := by decide +kernel
theorem dX12_goesBy_2 : decode cX12_goesBy 2 = .ok (.iload 4, 2) := by decide +kernel
theorem dX12_goesBy_4 : decode cX12_goesBy 4 = .ok (.invokevirtual 277, 3) := by decide +kernel
theorem dX12_goesBy_7 : decode cX12_goesBy 7 = .ok (.ifCond .eq 15, 3) := by decide +kernel
theorem dX12_goesBy_10 : decode cX12_goesBy 10 = .ok (.aload_n 0, 1) := by decide +kernel
theorem dX12_goesBy_11 : decode cX12_goesBy 11 = .ok (.iload_n 1, 1) := by decide +kernel
theorem dX12_goesBy_12 : decode cX12_goesBy 12 = .ok (.iload_n 2, 1) := by decide +kernel
theorem dX12_goesBy_13 : decode cX12_goesBy 13 = .ok (.iload_n 3, 1) := by decide +kernel
theorem dX12_goesBy_14 : decode cX12_goesBy 14 = .ok (.iload 4, 2) := by decide +kernel
theorem dX12_goesBy_16 : decode cX12_goesBy 16 = .ok (.invokevirtual 280, 3) := by decide +kernel
theorem dX12_goesBy_19 : decode cX12_goesBy 19 = .ok (.goto 6, 3) := by decide +kernel
theorem dX12_goesBy_22 : decode cX12_goesBy 22 = .ok (.ldc_w 273, 3) := by decide +kernel
theorem dX12_goesBy_25 : decode cX12_goesBy 25 = .ok (.istore 5, 2) := by decide +kernel
theorem dX12_goesBy_27 : decode cX12_goesBy 27 = .ok (.iload 5, 2) := by decide +kernel
theorem dX12_goesBy_29 : decode cX12_goesBy 29 = .ok (.ldc_w 273, 3) := by decide +kernel
theorem dX12_goesBy_32 : decode cX12_goesBy 32 = .ok (.if_icmp .ne 7, 3) := by decide +kernel
theorem dX12_goesBy_35 : decode cX12_goesBy 35 = .ok (.ldc_w 273, 3) := by decide +kernel
theorem dX12_goesBy_38 : decode cX12_goesBy 38 = .ok (.ireturn, 1) := by decide +kernel
theorem dX12_goesBy_39 : decode cX12_goesBy 39 = .ok (.aload_n 0, 1) := by decide +kernel
theorem dX12_goesBy_40 : decode cX12_goesBy 40 = .ok (.getfield 39, 3) := by decide +kernel
theorem dX12_goesBy_43 : decode cX12_goesBy 43 = .ok (.iload_n 1, 1) := by decide +kernel
theorem dX12_goesBy_44 : decode cX12_goesBy 44 = .ok (.iconst 1, 1) := by decide +kernel
theorem dX12_goesBy_45 : decode cX12_goesBy 45 = .ok (.iadd, 1) := by decide +kernel
theorem dX12_goesBy_46 : decode cX12_goesBy 46 = .ok (.iload 4, 2) := by decide +kernel
theorem dX12_goesBy_48 : decode cX12_goesBy 48 = .ok (.iload_n 3, 1) := by decide +kernel
theorem dX12_goesBy_49 : decode cX12_goesBy 49 = .ok (.iload 4, 2) := by decide +kernel
theorem dX12_goesBy_51 : decode cX12_goesBy 51 = .ok (.isub, 1) := by decide +kernel
theorem dX12_goesBy_52 : decode cX12_goesBy 52 = .ok (.invokestatic 262, 3) := by decide +kernel
theorem dX12_goesBy_55 : decode cX12_goesBy 55 = .ok (.iaload, 1) := by decide +kernel
theorem dX12_goesBy_56 : decode cX12_goesBy 56 = .ok (.istore 6, 2) := by decide +kernel
theorem dX12_goesBy_58 : decode cX12_goesBy 58 = .ok (.iload 6, 2) := by decide +kernel
theorem dX12_goesBy_60 : decode cX12_goesBy 60 = .ok (.ldc_w 273, 3) := by decide +kernel
theorem dX12_goesBy_63 : decode cX12_goesBy 63 = .ok (.if_icmp .ne 9, 3) := by decide +kernel
theorem dX12_goesBy_66 : decode cX12_goesBy 66 = .ok (.ldc_w 273, 3) := by decide +kernel
theorem dX12_goesBy_69 : decode cX12_goesBy 69 = .ok (.goto 8, 3) := by decide +kernel
theorem dX12_goesBy_72 : decode cX12_goesBy 72 = .ok (.iload 5, 2) := by decide +kernel
theorem dX12_goesBy_74 : decode cX12_goesBy 74 = .ok (.iload 6, 2) := by decide +kernel
theorem dX12_goesBy_76 : decode cX12_goesBy 76 = .ok (.iadd, 1) := by decide +kernel
theorem dX12_goesBy_77 : decode cX12_goesBy 77 = .ok (.ireturn, 1) := by decide +kernel
theorem dX12_laysToGo_0 : decode cX12_laysToGo 0 = .ok (.bipush (-2), 2) := by decide +kernel
theorem dX12_laysToGo_2 : decode cX12_laysToGo 2 = .ok (.istore_n 3, 1) := by decide +kernel
theorem dX12_laysToGo_3 : decode cX12_laysToGo 3 = .ok (.iload_n 3, 1) := by decide +kernel
theorem dX12_laysToGo_4 : decode cX12_laysToGo 4 = .ok (.iconst 2, 1) := by decide +kernel
theorem dX12_laysToGo_5 : decode cX12_laysToGo 5 = .ok (.if_icmp .gt 51, 3) := by decide +kernel
theorem dX12_laysToGo_8 : decode cX12_laysToGo 8 = .ok (.bipush (-20), 2) := by decide +kernel
theorem dX12_laysToGo_10 : decode cX12_laysToGo 10 = .ok (.istore 4, 2) := by decide +kernel
theorem dX12_laysToGo_12 : decode cX12_laysToGo 12 = .ok (.iload 4, 2) := by decide +kernel
theorem dX12_laysToGo_14 : decode cX12_laysToGo 14 = .ok (.bipush 20, 2) := by decide +kernel
theorem dX12_laysToGo_16 : decode cX12_laysToGo 16 = .ok (.if_icmp .gt 34, 3) := by decide +kernel
theorem dX12_laysToGo_19 : decode cX12_laysToGo 19 = .ok (.aload_n 0, 1) := by decide +kernel
theorem dX12_laysToGo_20 : decode cX12_laysToGo 20 = .ok (.getfield 39, 3) := by decide +kernel
theorem dX12_laysToGo_23 : decode cX12_laysToGo 23 = .ok (.iload_n 1, 1) := by decide +kernel
theorem dX12_laysToGo_24 : decode cX12_laysToGo 24 = .ok (.iload_n 3, 1) := by decide +kernel
theorem dX12_laysToGo_25 : decode cX12_laysToGo 25 = .ok (.iload 4, 2) := by decide +kernel
theorem dX12_laysToGo_27 : decode cX12_laysToGo 27 = .ok (.invokestatic 262, 3) := by decide +kernel
theorem dX12_laysToGo_30 : decode cX12_laysToGo 30 = .ok (.iload 4, 2) := by decide +kernel
theorem dX12_laysToGo_32 : decode cX12_laysToGo 32 = .ok (.iload_n 2, 1) := by decide +kernel
theorem dX12_laysToGo_33 : decode cX12_laysToGo 33 = .ok (.if_icmp .lt 7, 3) := by decide +kernel
theorem dX12_laysToGo_36 : decode cX12_laysToGo 36 = .ok (.iconst 0, 1) := by decide +kernel
theorem dX12_laysToGo_37 : decode cX12_laysToGo 37 = .ok (.goto 6, 3) := by decide +kernel
theorem dX12_laysToGo_40 : decode cX12_laysToGo 40 = .ok (.ldc_w 273, 3) := by decide +kernel
theorem dX12_laysToGo_43 : decode cX12_laysToGo 43 = .ok (.iastore, 1) := by decide +kernel
theorem dX12_laysToGo_44 : decode cX12_laysToGo 44 = .ok (.iinc 4 1, 3) := by decide +kernel
theorem dX12_laysToGo_47 : decode cX12_laysToGo 47 = .ok (.goto (-35), 3) := by decide +kernel
theorem dX12_laysToGo_50 : decode cX12_laysToGo 50 = .ok (.iinc 3 1, 3) := by decide +kernel
theorem dX12_laysToGo_53 : decode cX12_laysToGo 53 = .ok (.goto (-50), 3) := by decide +kernel
theorem dX12_laysToGo_56 : decode cX12_laysToGo 56 = .ok (.iload_n 1, 1) := by decide +kernel
theorem dX12_laysToGo_57 : decode cX12_laysToGo 57 = .ok (.iconst 1, 1) := by decide +kernel
theorem dX12_laysToGo_58 : decode cX12_laysToGo 58 = .ok (.isub, 1) := by decide +kernel
theorem dX12_laysToGo_59 : decode cX12_laysToGo 59 = .ok (.istore_n 3, 1) := by decide +kernel
theorem dX12_laysToGo_60 : decode cX12_laysToGo 60 = .ok (.iload_n 3, 1) := by decide +kernel
theorem dX12_laysToGo_61 : decode cX12_laysToGo 61 = .ok (.ifCond .lt 64, 3) := by decide +kernel
theorem dX12_laysToGo_64 : decode cX12_laysToGo 64 = .ok (.bipush (-2), 2) := by decide +kernel
theorem dX12_laysToGo_66 : decode cX12_laysToGo 66 = .ok (.istore 4, 2) := by decide +kernel
theorem dX12_laysToGo_68 : decode cX12_laysToGo 68 = .ok (.iload 4, 2) := by decide +kernel
theorem dX12_laysToGo_70 : decode cX12_laysToGo 70 = .ok (.iconst 2, 1) := by decide +kernel
theorem dX12_laysToGo_71 : decode cX12_laysToGo 71 = .ok (.if_icmp .gt 48, 3) := by decide +kernel
theorem dX12_laysToGo_74 : decode cX12_laysToGo 74 = .ok (.bipush (-20), 2) := by decide +kernel
theorem dX12_laysToGo_76 : decode cX12_laysToGo 76 = .ok (.istore 5, 2) := by decide +kernel
theorem dX12_laysToGo_78 : decode cX12_laysToGo 78 = .ok (.iload 5, 2) := by decide +kernel
theorem dX12_laysToGo_80 : decode cX12_laysToGo 80 = .ok (.bipush 20, 2) := by decide +kernel
theorem dX12_laysToGo_82 : decode cX12_laysToGo 82 = .ok (.if_icmp .gt 31, 3) := by decide +kernel
theorem dX12_laysToGo_85 : decode cX12_laysToGo 85 = .ok (.aload_n 0, 1) := by decide +kernel
theorem dX12_laysToGo_86 : decode cX12_laysToGo 86 = .ok (.getfield 39, 3) := by decide +kernel
theorem dX12_laysToGo_89 : decode cX12_laysToGo 89 = .ok (.iload_n 3, 1) := by decide +kernel
theorem dX12_laysToGo_90 : decode cX12_laysToGo 90 = .ok (.iload 4, 2) := by decide +kernel
theorem dX12_laysToGo_92 : decode cX12_laysToGo 92 = .ok (.iload 5, 2) := by decide +kernel
theorem dX12_laysToGo_94 : decode cX12_laysToGo 94 = .ok (.invokestatic 262, 3) := by decide +kernel
theorem dX12_laysToGo_97 : decode cX12_laysToGo 97 = .ok (.aload_n 0, 1) := by decide +kernel
theorem dX12_laysToGo_98 : decode cX12_laysToGo 98 = .ok (.iload_n 3, 1) := by decide +kernel
theorem dX12_laysToGo_99 : decode cX12_laysToGo 99 = .ok (.iload 4, 2) := by decide +kernel
theorem dX12_laysToGo_101 : decode cX12_laysToGo 101 = .ok (.iload 5, 2) := by decide +kernel
theorem dX12_laysToGo_103 : decode cX12_laysToGo 103 = .ok (.invokevirtual 284, 3) := by decide +kernel
theorem dX12_laysToGo_106 : decode cX12_laysToGo 106 = .ok (.iastore, 1) := by decide +kernel
theorem dX12_laysToGo_107 : decode cX12_laysToGo 107 = .ok (.iinc 5 1, 3) := by decide +kernel
theorem dX12_laysToGo_110 : decode cX12_laysToGo 110 = .ok (.goto (-32), 3) := by decide +kernel
theorem dX12_laysToGo_113 : decode cX12_laysToGo 113 = .ok (.iinc 4 1, 3) := by decide +kernel
theorem dX12_laysToGo_116 : decode cX12_laysToGo 116 = .ok (.goto (-48), 3) := by decide +kernel
theorem dX12_laysToGo_119 : decode cX12_laysToGo 119 = .ok (.iinc 3 (-1), 3) := by decide +kernel
theorem dX12_laysToGo_122 : decode cX12_laysToGo 122 = .ok (.goto (-62), 3) := by decide +kernel
theorem dX12_laysToGo_125 : decode cX12_laysToGo 125 = .ok (.return_, 1) := by decide +kernel
theorem dX12_mostBy_0 : decode cX12_mostBy 0 = .ok (.ldc_w 273, 3) := by decide +kernel
theorem dX12_mostBy_3 : decode cX12_mostBy 3 = .ok (.istore 4, 2) := by decide +kernel
theorem dX12_mostBy_5 : decode cX12_mostBy 5 = .ok (.bipush (-2), 2) := by decide +kernel
theorem dX12_mostBy_7 : decode cX12_mostBy 7 = .ok (.istore 5, 2) := by decide +kernel
theorem dX12_mostBy_9 : decode cX12_mostBy 9 = .ok (.iload 5, 2) := by decide +kernel
theorem dX12_mostBy_11 : decode cX12_mostBy 11 = .ok (.iconst 2, 1) := by decide +kernel
theorem dX12_mostBy_12 : decode cX12_mostBy 12 = .ok (.if_icmp .gt 36, 3) := by decide +kernel
theorem dX12_mostBy_15 : decode cX12_mostBy 15 = .ok (.aload_n 0, 1) := by decide +kernel
theorem dX12_mostBy_16 : decode cX12_mostBy 16 = .ok (.iload_n 1, 1) := by decide +kernel
theorem dX12_mostBy_17 : decode cX12_mostBy 17 = .ok (.iload_n 2, 1) := by decide +kernel
theorem dX12_mostBy_18 : decode cX12_mostBy 18 = .ok (.iload_n 3, 1) := by decide +kernel
theorem dX12_mostBy_19 : decode cX12_mostBy 19 = .ok (.iload 5, 2) := by decide +kernel
theorem dX12_mostBy_21 : decode cX12_mostBy 21 = .ok (.invokevirtual 287, 3) := by decide +kernel
theorem dX12_mostBy_24 : decode cX12_mostBy 24 = .ok (.istore 6, 2) := by decide +kernel
theorem dX12_mostBy_26 : decode cX12_mostBy 26 = .ok (.iload 6, 2) := by decide +kernel
theorem dX12_mostBy_28 : decode cX12_mostBy 28 = .ok (.iload 4, 2) := by decide +kernel
theorem dX12_mostBy_30 : decode cX12_mostBy 30 = .ok (.if_icmp .le 8, 3) := by decide +kernel
theorem dX12_mostBy_33 : decode cX12_mostBy 33 = .ok (.iload 6, 2) := by decide +kernel
theorem dX12_mostBy_35 : decode cX12_mostBy 35 = .ok (.goto 5, 3) := by decide +kernel
theorem dX12_mostBy_38 : decode cX12_mostBy 38 = .ok (.iload 4, 2) := by decide +kernel
theorem dX12_mostBy_40 : decode cX12_mostBy 40 = .ok (.istore 4, 2) := by decide +kernel
theorem dX12_mostBy_42 : decode cX12_mostBy 42 = .ok (.iinc 5 1, 3) := by decide +kernel
theorem dX12_mostBy_45 : decode cX12_mostBy 45 = .ok (.goto (-36), 3) := by decide +kernel
theorem dX12_mostBy_48 : decode cX12_mostBy 48 = .ok (.iload 4, 2) := by decide +kernel
theorem dX12_mostBy_50 : decode cX12_mostBy 50 = .ok (.ireturn, 1) := by decide +kernel
theorem dX12_laysRow_0 : decode cX12_laysRow 0 = .ok (.aload_n 0, 1) := by decide +kernel
theorem dX12_laysRow_1 : decode cX12_laysRow 1 = .ok (.aload_n 0, 1) := by decide +kernel
theorem dX12_laysRow_2 : decode cX12_laysRow 2 = .ok (.getfield 39, 3) := by decide +kernel
theorem dX12_laysRow_5 : decode cX12_laysRow 5 = .ok (.iconst 0, 1) := by decide +kernel
theorem dX12_laysRow_6 : decode cX12_laysRow 6 = .ok (.iconst 0, 1) := by decide +kernel
theorem dX12_laysRow_7 : decode cX12_laysRow 7 = .ok (.iload_n 2, 1) := by decide +kernel
theorem dX12_laysRow_8 : decode cX12_laysRow 8 = .ok (.invokestatic 262, 3) := by decide +kernel
theorem dX12_laysRow_11 : decode cX12_laysRow 11 = .ok (.iaload, 1) := by decide +kernel
theorem dX12_laysRow_12 : decode cX12_laysRow 12 = .ok (.putfield 290, 3) := by decide +kernel
theorem dX12_laysRow_15 : decode cX12_laysRow 15 = .ok (.aload_n 0, 1) := by decide +kernel
theorem dX12_laysRow_16 : decode cX12_laysRow 16 = .ok (.getfield 290, 3) := by decide +kernel
theorem dX12_laysRow_19 : decode cX12_laysRow 19 = .ok (.ldc_w 273, 3) := by decide +kernel
theorem dX12_laysRow_22 : decode cX12_laysRow 22 = .ok (.if_icmp .ne 5, 3) := by decide +kernel
theorem dX12_laysRow_25 : decode cX12_laysRow 25 = .ok (.iconst 0, 1) := by decide +kernel
theorem dX12_laysRow_26 : decode cX12_laysRow 26 = .ok (.ireturn, 1) := by decide +kernel
theorem dX12_laysRow_27 : decode cX12_laysRow 27 = .ok (.iconst 0, 1) := by decide +kernel
theorem dX12_laysRow_28 : decode cX12_laysRow 28 = .ok (.istore_n 3, 1) := by decide +kernel
theorem dX12_laysRow_29 : decode cX12_laysRow 29 = .ok (.aload_n 0, 1) := by decide +kernel
theorem dX12_laysRow_30 : decode cX12_laysRow 30 = .ok (.iload_n 2, 1) := by decide +kernel
theorem dX12_laysRow_31 : decode cX12_laysRow 31 = .ok (.putfield 293, 3) := by decide +kernel
theorem dX12_laysRow_34 : decode cX12_laysRow 34 = .ok (.iconst 0, 1) := by decide +kernel
theorem dX12_laysRow_35 : decode cX12_laysRow 35 = .ok (.istore 4, 2) := by decide +kernel
theorem dX12_laysRow_37 : decode cX12_laysRow 37 = .ok (.iload 4, 2) := by decide +kernel
theorem dX12_laysRow_39 : decode cX12_laysRow 39 = .ok (.iload_n 1, 1) := by decide +kernel
theorem dX12_laysRow_40 : decode cX12_laysRow 40 = .ok (.if_icmp .ge 73, 3) := by decide +kernel
theorem dX12_laysRow_43 : decode cX12_laysRow 43 = .ok (.bipush (-2), 2) := by decide +kernel
theorem dX12_laysRow_45 : decode cX12_laysRow 45 = .ok (.istore 5, 2) := by decide +kernel
theorem dX12_laysRow_47 : decode cX12_laysRow 47 = .ok (.aload_n 0, 1) := by decide +kernel
theorem dX12_laysRow_48 : decode cX12_laysRow 48 = .ok (.iload 4, 2) := by decide +kernel
theorem dX12_laysRow_50 : decode cX12_laysRow 50 = .ok (.iload_n 3, 1) := by decide +kernel
theorem dX12_laysRow_51 : decode cX12_laysRow 51 = .ok (.aload_n 0, 1) := by decide +kernel
theorem dX12_laysRow_52 : decode cX12_laysRow 52 = .ok (.getfield 293, 3) := by decide +kernel
theorem dX12_laysRow_55 : decode cX12_laysRow 55 = .ok (.iload 5, 2) := by decide +kernel
theorem dX12_laysRow_57 : decode cX12_laysRow 57 = .ok (.invokevirtual 287, 3) := by decide +kernel
theorem dX12_laysRow_60 : decode cX12_laysRow 60 = .ok (.aload_n 0, 1) := by decide +kernel
theorem dX12_laysRow_61 : decode cX12_laysRow 61 = .ok (.getfield 39, 3) := by decide +kernel
theorem dX12_laysRow_64 : decode cX12_laysRow 64 = .ok (.iload 4, 2) := by decide +kernel
theorem dX12_laysRow_66 : decode cX12_laysRow 66 = .ok (.iload_n 3, 1) := by decide +kernel
theorem dX12_laysRow_67 : decode cX12_laysRow 67 = .ok (.aload_n 0, 1) := by decide +kernel
theorem dX12_laysRow_68 : decode cX12_laysRow 68 = .ok (.getfield 293, 3) := by decide +kernel
theorem dX12_laysRow_71 : decode cX12_laysRow 71 = .ok (.invokestatic 262, 3) := by decide +kernel
theorem dX12_laysRow_74 : decode cX12_laysRow 74 = .ok (.iaload, 1) := by decide +kernel
theorem dX12_laysRow_75 : decode cX12_laysRow 75 = .ok (.if_icmp .eq 9, 3) := by decide +kernel
theorem dX12_laysRow_78 : decode cX12_laysRow 78 = .ok (.iinc 5 1, 3) := by decide +kernel
theorem dX12_laysRow_81 : decode cX12_laysRow 81 = .ok (.goto (-34), 3) := by decide +kernel
theorem dX12_laysRow_84 : decode cX12_laysRow 84 = .ok (.aload_n 0, 1) := by decide +kernel
theorem dX12_laysRow_85 : decode cX12_laysRow 85 = .ok (.getfield 42, 3) := by decide +kernel
theorem dX12_laysRow_88 : decode cX12_laysRow 88 = .ok (.iload 4, 2) := by decide +kernel
theorem dX12_laysRow_90 : decode cX12_laysRow 90 = .ok (.iload 5, 2) := by decide +kernel
theorem dX12_laysRow_92 : decode cX12_laysRow 92 = .ok (.iastore, 1) := by decide +kernel
theorem dX12_laysRow_93 : decode cX12_laysRow 93 = .ok (.aload_n 0, 1) := by decide +kernel
theorem dX12_laysRow_94 : decode cX12_laysRow 94 = .ok (.dup, 1) := by decide +kernel
theorem dX12_laysRow_95 : decode cX12_laysRow 95 = .ok (.getfield 293, 3) := by decide +kernel
theorem dX12_laysRow_98 : decode cX12_laysRow 98 = .ok (.iload 5, 2) := by decide +kernel
theorem dX12_laysRow_100 : decode cX12_laysRow 100 = .ok (.isub, 1) := by decide +kernel
theorem dX12_laysRow_101 : decode cX12_laysRow 101 = .ok (.putfield 293, 3) := by decide +kernel
theorem dX12_laysRow_104 : decode cX12_laysRow 104 = .ok (.iload 5, 2) := by decide +kernel
theorem dX12_laysRow_106 : decode cX12_laysRow 106 = .ok (.istore_n 3, 1) := by decide +kernel
theorem dX12_laysRow_107 : decode cX12_laysRow 107 = .ok (.iinc 4 1, 3) := by decide +kernel
theorem dX12_laysRow_110 : decode cX12_laysRow 110 = .ok (.goto (-73), 3) := by decide +kernel
theorem dX12_laysRow_113 : decode cX12_laysRow 113 = .ok (.iconst 1, 1) := by decide +kernel
theorem dX12_laysRow_114 : decode cX12_laysRow 114 = .ok (.ireturn, 1) := by decide +kernel
theorem dX12_laysBest_0 : decode cX12_laysBest 0 = .ok (.aload_n 0, 1) := by decide +kernel
theorem dX12_laysBest_1 : decode cX12_laysBest 1 = .ok (.invokevirtual 296, 3) := by decide +kernel
theorem dX12_laysBest_4 : decode cX12_laysBest 4 = .ok (.aload_n 0, 1) := by decide +kernel
theorem dX12_laysBest_5 : decode cX12_laysBest 5 = .ok (.iload_n 1, 1) := by decide +kernel
theorem dX12_laysBest_6 : decode cX12_laysBest 6 = .ok (.iload_n 2, 1) := by decide +kernel
theorem dX12_laysBest_7 : decode cX12_laysBest 7 = .ok (.invokevirtual 299, 3) := by decide +kernel
theorem dX12_laysBest_10 : decode cX12_laysBest 10 = .ok (.aload_n 0, 1) := by decide +kernel
theorem dX12_laysBest_11 : decode cX12_laysBest 11 = .ok (.aload_n 0, 1) := by decide +kernel
theorem dX12_laysBest_12 : decode cX12_laysBest 12 = .ok (.getfield 13, 3) := by decide +kernel
theorem dX12_laysBest_15 : decode cX12_laysBest 15 = .ok (.bipush 10, 2) := by decide +kernel
theorem dX12_laysBest_17 : decode cX12_laysBest 17 = .ok (.iload_n 2, 1) := by decide +kernel
theorem dX12_laysBest_18 : decode cX12_laysBest 18 = .ok (.iadd, 1) := by decide +kernel
theorem dX12_laysBest_19 : decode cX12_laysBest 19 = .ok (.iaload, 1) := by decide +kernel
theorem dX12_laysBest_20 : decode cX12_laysBest 20 = .ok (.iload_n 3, 1) := by decide +kernel
theorem dX12_laysBest_21 : decode cX12_laysBest 21 = .ok (.invokevirtual 303, 3) := by decide +kernel
theorem dX12_laysBest_24 : decode cX12_laysBest 24 = .ok (.aload_n 0, 1) := by decide +kernel
theorem dX12_laysBest_25 : decode cX12_laysBest 25 = .ok (.aload_n 0, 1) := by decide +kernel
theorem dX12_laysBest_26 : decode cX12_laysBest 26 = .ok (.getfield 13, 3) := by decide +kernel
theorem dX12_laysBest_29 : decode cX12_laysBest 29 = .ok (.bipush 10, 2) := by decide +kernel
theorem dX12_laysBest_31 : decode cX12_laysBest 31 = .ok (.iload_n 2, 1) := by decide +kernel
theorem dX12_laysBest_32 : decode cX12_laysBest 32 = .ok (.iadd, 1) := by decide +kernel
theorem dX12_laysBest_33 : decode cX12_laysBest 33 = .ok (.iaload, 1) := by decide +kernel
theorem dX12_laysBest_34 : decode cX12_laysBest 34 = .ok (.aload_n 0, 1) := by decide +kernel
theorem dX12_laysBest_35 : decode cX12_laysBest 35 = .ok (.getfield 13, 3) := by decide +kernel
theorem dX12_laysBest_38 : decode cX12_laysBest 38 = .ok (.bipush 77, 2) := by decide +kernel
theorem dX12_laysBest_40 : decode cX12_laysBest 40 = .ok (.iload_n 1, 1) := by decide +kernel
theorem dX12_laysBest_41 : decode cX12_laysBest 41 = .ok (.iadd, 1) := by decide +kernel
theorem dX12_laysBest_42 : decode cX12_laysBest 42 = .ok (.iaload, 1) := by decide +kernel
theorem dX12_laysBest_43 : decode cX12_laysBest 43 = .ok (.invokevirtual 306, 3) := by decide +kernel
theorem dX12_laysBest_46 : decode cX12_laysBest 46 = .ok (.ireturn, 1) := by decide +kernel
theorem dX12_naturally_0 : decode cX12_naturally 0 = .ok (.bipush 9, 2) := by decide +kernel
theorem dX12_naturally_2 : decode cX12_naturally 2 = .ok (.istore 4, 2) := by decide +kernel
theorem dX12_naturally_4 : decode cX12_naturally 4 = .ok (.ldc_w 273, 3) := by decide +kernel
theorem dX12_naturally_7 : decode cX12_naturally 7 = .ok (.istore 5, 2) := by decide +kernel
theorem dX12_naturally_9 : decode cX12_naturally 9 = .ok (.bipush (-2), 2) := by decide +kernel
theorem dX12_naturally_11 : decode cX12_naturally 11 = .ok (.istore 6, 2) := by decide +kernel
theorem dX12_naturally_13 : decode cX12_naturally 13 = .ok (.iload 6, 2) := by decide +kernel
theorem dX12_naturally_15 : decode cX12_naturally 15 = .ok (.iconst 2, 1) := by decide +kernel
theorem dX12_naturally_16 : decode cX12_naturally 16 = .ok (.if_icmp .gt 38, 3) := by decide +kernel
theorem dX12_naturally_19 : decode cX12_naturally 19 = .ok (.aload_n 0, 1) := by decide +kernel
theorem dX12_naturally_20 : decode cX12_naturally 20 = .ok (.iload_n 1, 1) := by decide +kernel
theorem dX12_naturally_21 : decode cX12_naturally 21 = .ok (.iload_n 2, 1) := by decide +kernel
theorem dX12_naturally_22 : decode cX12_naturally 22 = .ok (.iload_n 3, 1) := by decide +kernel
theorem dX12_naturally_23 : decode cX12_naturally 23 = .ok (.iload 6, 2) := by decide +kernel
theorem dX12_naturally_25 : decode cX12_naturally 25 = .ok (.invokevirtual 280, 3) := by decide +kernel
theorem dX12_naturally_28 : decode cX12_naturally 28 = .ok (.istore 7, 2) := by decide +kernel
theorem dX12_naturally_30 : decode cX12_naturally 30 = .ok (.iload 7, 2) := by decide +kernel
theorem dX12_naturally_32 : decode cX12_naturally 32 = .ok (.iload 5, 2) := by decide +kernel
theorem dX12_naturally_34 : decode cX12_naturally 34 = .ok (.if_icmp .gt 6, 3) := by decide +kernel
theorem dX12_naturally_37 : decode cX12_naturally 37 = .ok (.goto 11, 3) := by decide +kernel
theorem dX12_naturally_40 : decode cX12_naturally 40 = .ok (.iload 6, 2) := by decide +kernel
theorem dX12_naturally_42 : decode cX12_naturally 42 = .ok (.istore 4, 2) := by decide +kernel
theorem dX12_naturally_44 : decode cX12_naturally 44 = .ok (.iload 7, 2) := by decide +kernel
theorem dX12_naturally_46 : decode cX12_naturally 46 = .ok (.istore 5, 2) := by decide +kernel
theorem dX12_naturally_48 : decode cX12_naturally 48 = .ok (.iinc 6 1, 3) := by decide +kernel
theorem dX12_naturally_51 : decode cX12_naturally 51 = .ok (.goto (-38), 3) := by decide +kernel
theorem dX12_naturally_54 : decode cX12_naturally 54 = .ok (.iload 4, 2) := by decide +kernel
theorem dX12_naturally_56 : decode cX12_naturally 56 = .ok (.ireturn, 1) := by decide +kernel
theorem dX12_laysComes_0 : decode cX12_laysComes 0 = .ok (.aload_n 0, 1) := by decide +kernel
theorem dX12_laysComes_1 : decode cX12_laysComes 1 = .ok (.iload_n 1, 1) := by decide +kernel
theorem dX12_laysComes_2 : decode cX12_laysComes 2 = .ok (.iload_n 2, 1) := by decide +kernel
theorem dX12_laysComes_3 : decode cX12_laysComes 3 = .ok (.invokevirtual 299, 3) := by decide +kernel
theorem dX12_laysComes_6 : decode cX12_laysComes 6 = .ok (.aload_n 0, 1) := by decide +kernel
theorem dX12_laysComes_7 : decode cX12_laysComes 7 = .ok (.iconst 0, 1) := by decide +kernel
theorem dX12_laysComes_8 : decode cX12_laysComes 8 = .ok (.putfield 290, 3) := by decide +kernel
theorem dX12_laysComes_11 : decode cX12_laysComes 11 = .ok (.aload_n 0, 1) := by decide +kernel
theorem dX12_laysComes_12 : decode cX12_laysComes 12 = .ok (.aload_n 0, 1) := by decide +kernel
theorem dX12_laysComes_13 : decode cX12_laysComes 13 = .ok (.getfield 13, 3) := by decide +kernel
theorem dX12_laysComes_16 : decode cX12_laysComes 16 = .ok (.bipush 77, 2) := by decide +kernel
theorem dX12_laysComes_18 : decode cX12_laysComes 18 = .ok (.iload_n 1, 1) := by decide +kernel
theorem dX12_laysComes_19 : decode cX12_laysComes 19 = .ok (.iadd, 1) := by decide +kernel
theorem dX12_laysComes_20 : decode cX12_laysComes 20 = .ok (.iaload, 1) := by decide +kernel
theorem dX12_laysComes_21 : decode cX12_laysComes 21 = .ok (.putfield 293, 3) := by decide +kernel
theorem dX12_laysComes_24 : decode cX12_laysComes 24 = .ok (.aload_n 0, 1) := by decide +kernel
theorem dX12_laysComes_25 : decode cX12_laysComes 25 = .ok (.iconst (-1), 1) := by decide +kernel
theorem dX12_laysComes_26 : decode cX12_laysComes 26 = .ok (.putfield 309, 3) := by decide +kernel
theorem dX12_laysComes_29 : decode cX12_laysComes 29 = .ok (.iconst 0, 1) := by decide +kernel
theorem dX12_laysComes_30 : decode cX12_laysComes 30 = .ok (.istore_n 3, 1) := by decide +kernel
theorem dX12_laysComes_31 : decode cX12_laysComes 31 = .ok (.iconst 0, 1) := by decide +kernel
theorem dX12_laysComes_32 : decode cX12_laysComes 32 = .ok (.istore 4, 2) := by decide +kernel
theorem dX12_laysComes_34 : decode cX12_laysComes 34 = .ok (.iload 4, 2) := by decide +kernel
theorem dX12_laysComes_36 : decode cX12_laysComes 36 = .ok (.aload_n 0, 1) := by decide +kernel
theorem dX12_laysComes_37 : decode cX12_laysComes 37 = .ok (.getfield 13, 3) := by decide +kernel
theorem dX12_laysComes_40 : decode cX12_laysComes 40 = .ok (.bipush 10, 2) := by decide +kernel
theorem dX12_laysComes_42 : decode cX12_laysComes 42 = .ok (.iload_n 2, 1) := by decide +kernel
theorem dX12_laysComes_43 : decode cX12_laysComes 43 = .ok (.iadd, 1) := by decide +kernel
theorem dX12_laysComes_44 : decode cX12_laysComes 44 = .ok (.iaload, 1) := by decide +kernel
theorem dX12_laysComes_45 : decode cX12_laysComes 45 = .ok (.if_icmp .ge 111, 3) := by decide +kernel
theorem dX12_laysComes_48 : decode cX12_laysComes 48 = .ok (.aload_n 0, 1) := by decide +kernel
theorem dX12_laysComes_49 : decode cX12_laysComes 49 = .ok (.getfield 309, 3) := by decide +kernel
theorem dX12_laysComes_52 : decode cX12_laysComes 52 = .ok (.iconst (-1), 1) := by decide +kernel
theorem dX12_laysComes_53 : decode cX12_laysComes 53 = .ok (.if_icmp .ne 17, 3) := by decide +kernel
theorem dX12_laysComes_56 : decode cX12_laysComes 56 = .ok (.aload_n 0, 1) := by decide +kernel
theorem dX12_laysComes_57 : decode cX12_laysComes 57 = .ok (.iload 4, 2) := by decide +kernel
theorem dX12_laysComes_59 : decode cX12_laysComes 59 = .ok (.iload_n 3, 1) := by decide +kernel
theorem dX12_laysComes_60 : decode cX12_laysComes 60 = .ok (.aload_n 0, 1) := by decide +kernel
theorem dX12_laysComes_61 : decode cX12_laysComes 61 = .ok (.getfield 293, 3) := by decide +kernel
theorem dX12_laysComes_64 : decode cX12_laysComes 64 = .ok (.invokevirtual 312, 3) := by decide +kernel
theorem dX12_laysComes_67 : decode cX12_laysComes 67 = .ok (.goto 5, 3) := by decide +kernel
theorem dX12_laysComes_70 : decode cX12_laysComes 70 = .ok (.bipush 9, 2) := by decide +kernel
theorem dX12_laysComes_72 : decode cX12_laysComes 72 = .ok (.istore 5, 2) := by decide +kernel
theorem dX12_laysComes_74 : decode cX12_laysComes 74 = .ok (.aload_n 0, 1) := by decide +kernel
theorem dX12_laysComes_75 : decode cX12_laysComes 75 = .ok (.getfield 42, 3) := by decide +kernel
theorem dX12_laysComes_78 : decode cX12_laysComes 78 = .ok (.iload 4, 2) := by decide +kernel
theorem dX12_laysComes_80 : decode cX12_laysComes 80 = .ok (.iload 5, 2) := by decide +kernel
theorem dX12_laysComes_82 : decode cX12_laysComes 82 = .ok (.iastore, 1) := by decide +kernel
theorem dX12_laysComes_83 : decode cX12_laysComes 83 = .ok (.iload 5, 2) := by decide +kernel
theorem dX12_laysComes_85 : decode cX12_laysComes 85 = .ok (.bipush 9, 2) := by decide +kernel
theorem dX12_laysComes_87 : decode cX12_laysComes 87 = .ok (.if_icmp .ne 27, 3) := by decide +kernel
theorem dX12_laysComes_90 : decode cX12_laysComes 90 = .ok (.aload_n 0, 1) := by decide +kernel
theorem dX12_laysComes_91 : decode cX12_laysComes 91 = .ok (.aload_n 0, 1) := by decide +kernel
theorem dX12_laysComes_92 : decode cX12_laysComes 92 = .ok (.getfield 309, 3) := by decide +kernel
theorem dX12_laysComes_95 : decode cX12_laysComes 95 = .ok (.iconst (-1), 1) := by decide +kernel
theorem dX12_laysComes_96 : decode cX12_laysComes 96 = .ok (.if_icmp .ne 8, 3) := by decide +kernel
theorem dX12_laysComes_99 : decode cX12_laysComes 99 = .ok (.iload 4, 2) := by decide +kernel
theorem dX12_laysComes_101 : decode cX12_laysComes 101 = .ok (.goto 7, 3) := by decide +kernel
theorem dX12_laysComes_104 : decode cX12_laysComes 104 = .ok (.aload_n 0, 1) := by decide +kernel
theorem dX12_laysComes_105 : decode cX12_laysComes 105 = .ok (.getfield 309, 3) := by decide +kernel
theorem dX12_laysComes_108 : decode cX12_laysComes 108 = .ok (.putfield 309, 3) := by decide +kernel
theorem dX12_laysComes_111 : decode cX12_laysComes 111 = .ok (.goto 39, 3) := by decide +kernel
theorem dX12_laysComes_114 : decode cX12_laysComes 114 = .ok (.aload_n 0, 1) := by decide +kernel
theorem dX12_laysComes_115 : decode cX12_laysComes 115 = .ok (.dup, 1) := by decide +kernel
theorem dX12_laysComes_116 : decode cX12_laysComes 116 = .ok (.getfield 290, 3) := by decide +kernel
theorem dX12_laysComes_119 : decode cX12_laysComes 119 = .ok (.aload_n 0, 1) := by decide +kernel
theorem dX12_laysComes_120 : decode cX12_laysComes 120 = .ok (.iload 4, 2) := by decide +kernel
theorem dX12_laysComes_122 : decode cX12_laysComes 122 = .ok (.iload_n 3, 1) := by decide +kernel
theorem dX12_laysComes_123 : decode cX12_laysComes 123 = .ok (.aload_n 0, 1) := by decide +kernel
theorem dX12_laysComes_124 : decode cX12_laysComes 124 = .ok (.getfield 293, 3) := by decide +kernel
theorem dX12_laysComes_127 : decode cX12_laysComes 127 = .ok (.iload 5, 2) := by decide +kernel
theorem dX12_laysComes_129 : decode cX12_laysComes 129 = .ok (.invokevirtual 280, 3) := by decide +kernel
theorem dX12_laysComes_132 : decode cX12_laysComes 132 = .ok (.iadd, 1) := by decide +kernel
theorem dX12_laysComes_133 : decode cX12_laysComes 133 = .ok (.putfield 290, 3) := by decide +kernel
theorem dX12_laysComes_136 : decode cX12_laysComes 136 = .ok (.aload_n 0, 1) := by decide +kernel
theorem dX12_laysComes_137 : decode cX12_laysComes 137 = .ok (.dup, 1) := by decide +kernel
theorem dX12_laysComes_138 : decode cX12_laysComes 138 = .ok (.getfield 293, 3) := by decide +kernel
theorem dX12_laysComes_141 : decode cX12_laysComes 141 = .ok (.iload 5, 2) := by decide +kernel
theorem dX12_laysComes_143 : decode cX12_laysComes 143 = .ok (.isub, 1) := by decide +kernel
theorem dX12_laysComes_144 : decode cX12_laysComes 144 = .ok (.putfield 293, 3) := by decide +kernel
theorem dX12_laysComes_147 : decode cX12_laysComes 147 = .ok (.iload 5, 2) := by decide +kernel
theorem dX12_laysComes_149 : decode cX12_laysComes 149 = .ok (.istore_n 3, 1) := by decide +kernel
theorem dX12_laysComes_150 : decode cX12_laysComes 150 = .ok (.iinc 4 1, 3) := by decide +kernel
theorem dX12_laysComes_153 : decode cX12_laysComes 153 = .ok (.goto (-119), 3) := by decide +kernel
theorem dX12_laysComes_156 : decode cX12_laysComes 156 = .ok (.return_, 1) := by decide +kernel
theorem dX12_rowAt_0 : decode cX12_rowAt 0 = .ok (.iload_n 2, 1) := by decide +kernel
theorem dX12_rowAt_1 : decode cX12_rowAt 1 = .ok (.aload_n 0, 1) := by decide +kernel
theorem dX12_rowAt_2 : decode cX12_rowAt 2 = .ok (.getfield 13, 3) := by decide +kernel
theorem dX12_rowAt_5 : decode cX12_rowAt 5 = .ok (.bipush 10, 2) := by decide +kernel
theorem dX12_rowAt_7 : decode cX12_rowAt 7 = .ok (.iload_n 1, 1) := by decide +kernel
theorem dX12_rowAt_8 : decode cX12_rowAt 8 = .ok (.iadd, 1) := by decide +kernel
theorem dX12_rowAt_9 : decode cX12_rowAt 9 = .ok (.iaload, 1) := by decide +kernel
theorem dX12_rowAt_10 : decode cX12_rowAt 10 = .ok (.if_icmp .ge 12, 3) := by decide +kernel
theorem dX12_rowAt_13 : decode cX12_rowAt 13 = .ok (.aload_n 0, 1) := by decide +kernel
theorem dX12_rowAt_14 : decode cX12_rowAt 14 = .ok (.getfield 42, 3) := by decide +kernel
theorem dX12_rowAt_17 : decode cX12_rowAt 17 = .ok (.iload_n 2, 1) := by decide +kernel
theorem dX12_rowAt_18 : decode cX12_rowAt 18 = .ok (.iaload, 1) := by decide +kernel
theorem dX12_rowAt_19 : decode cX12_rowAt 19 = .ok (.goto 5, 3) := by decide +kernel
theorem dX12_rowAt_22 : decode cX12_rowAt 22 = .ok (.bipush 9, 2) := by decide +kernel
theorem dX12_rowAt_24 : decode cX12_rowAt 24 = .ok (.ireturn, 1) := by decide +kernel
theorem dX12_keeps_0 : decode cX12_keeps 0 = .ok (.iconst 0, 1) := by decide +kernel
theorem dX12_keeps_1 : decode cX12_keeps 1 = .ok (.istore_n 1, 1) := by decide +kernel
theorem dX12_keeps_2 : decode cX12_keeps 2 = .ok (.iload_n 1, 1) := by decide +kernel
theorem dX12_keeps_3 : decode cX12_keeps 3 = .ok (.bipush 17, 2) := by decide +kernel
theorem dX12_keeps_5 : decode cX12_keeps 5 = .ok (.if_icmp .ge 24, 3) := by decide +kernel
theorem dX12_keeps_8 : decode cX12_keeps 8 = .ok (.aload_n 0, 1) := by decide +kernel
theorem dX12_keeps_9 : decode cX12_keeps 9 = .ok (.getfield 48, 3) := by decide +kernel
theorem dX12_keeps_12 : decode cX12_keeps 12 = .ok (.iload_n 1, 1) := by decide +kernel
theorem dX12_keeps_13 : decode cX12_keeps 13 = .ok (.aload_n 0, 1) := by decide +kernel
theorem dX12_keeps_14 : decode cX12_keeps 14 = .ok (.getfield 13, 3) := by decide +kernel
theorem dX12_keeps_17 : decode cX12_keeps 17 = .ok (.bipush 75, 2) := by decide +kernel
theorem dX12_keeps_19 : decode cX12_keeps 19 = .ok (.iload_n 1, 1) := by decide +kernel
theorem dX12_keeps_20 : decode cX12_keeps 20 = .ok (.iadd, 1) := by decide +kernel
theorem dX12_keeps_21 : decode cX12_keeps 21 = .ok (.iaload, 1) := by decide +kernel
theorem dX12_keeps_22 : decode cX12_keeps 22 = .ok (.iastore, 1) := by decide +kernel
theorem dX12_keeps_23 : decode cX12_keeps 23 = .ok (.iinc 1 1, 3) := by decide +kernel
theorem dX12_keeps_26 : decode cX12_keeps 26 = .ok (.goto (-24), 3) := by decide +kernel
theorem dX12_keeps_29 : decode cX12_keeps 29 = .ok (.return_, 1) := by decide +kernel
theorem dX12_isAgain_0 : decode cX12_isAgain 0 = .ok (.iconst 0, 1) := by decide +kernel
theorem dX12_isAgain_1 : decode cX12_isAgain 1 = .ok (.istore_n 1, 1) := by decide +kernel
theorem dX12_isAgain_2 : decode cX12_isAgain 2 = .ok (.iload_n 1, 1) := by decide +kernel
theorem dX12_isAgain_3 : decode cX12_isAgain 3 = .ok (.bipush 17, 2) := by decide +kernel
theorem dX12_isAgain_5 : decode cX12_isAgain 5 = .ok (.if_icmp .ge 24, 3) := by decide +kernel
theorem dX12_isAgain_8 : decode cX12_isAgain 8 = .ok (.aload_n 0, 1) := by decide +kernel
theorem dX12_isAgain_9 : decode cX12_isAgain 9 = .ok (.getfield 13, 3) := by decide +kernel
theorem dX12_isAgain_12 : decode cX12_isAgain 12 = .ok (.bipush 75, 2) := by decide +kernel
theorem dX12_isAgain_14 : decode cX12_isAgain 14 = .ok (.iload_n 1, 1) := by decide +kernel
theorem dX12_isAgain_15 : decode cX12_isAgain 15 = .ok (.iadd, 1) := by decide +kernel
theorem dX12_isAgain_16 : decode cX12_isAgain 16 = .ok (.aload_n 0, 1) := by decide +kernel
theorem dX12_isAgain_17 : decode cX12_isAgain 17 = .ok (.getfield 48, 3) := by decide +kernel
theorem dX12_isAgain_20 : decode cX12_isAgain 20 = .ok (.iload_n 1, 1) := by decide +kernel
theorem dX12_isAgain_21 : decode cX12_isAgain 21 = .ok (.iaload, 1) := by decide +kernel
theorem dX12_isAgain_22 : decode cX12_isAgain 22 = .ok (.iastore, 1) := by decide +kernel
theorem dX12_isAgain_23 : decode cX12_isAgain 23 = .ok (.iinc 1 1, 3) := by decide +kernel
theorem dX12_isAgain_26 : decode cX12_isAgain 26 = .ok (.goto (-24), 3) := by decide +kernel
theorem dX12_isAgain_29 : decode cX12_isAgain 29 = .ok (.return_, 1) := by decide +kernel
theorem dX12_notes_0 : decode cX12_notes 0 = .ok (.aload_n 0, 1) := by decide +kernel
theorem dX12_notes_1 : decode cX12_notes 1 = .ok (.getfield 13, 3) := by decide +kernel
theorem dX12_notes_4 : decode cX12_notes 4 = .ok (.bipush 92, 2) := by decide +kernel
theorem dX12_notes_6 : decode cX12_notes 6 = .ok (.iaload, 1) := by decide +kernel
theorem dX12_notes_7 : decode cX12_notes 7 = .ok (.bipush 10, 2) := by decide +kernel
theorem dX12_notes_9 : decode cX12_notes 9 = .ok (.if_icmp .ne 47, 3) := by decide +kernel
theorem dX12_notes_12 : decode cX12_notes 12 = .ok (.iconst 0, 1) := by decide +kernel
theorem dX12_notes_13 : decode cX12_notes 13 = .ok (.istore_n 1, 1) := by decide +kernel
theorem dX12_notes_14 : decode cX12_notes 14 = .ok (.iload_n 1, 1) := by decide +kernel
theorem dX12_notes_15 : decode cX12_notes 15 = .ok (.sipush 153, 3) := by decide +kernel
theorem dX12_notes_18 : decode cX12_notes 18 = .ok (.if_icmp .ge 27, 3) := by decide +kernel
theorem dX12_notes_21 : decode cX12_notes 21 = .ok (.aload_n 0, 1) := by decide +kernel
theorem dX12_notes_22 : decode cX12_notes 22 = .ok (.getfield 13, 3) := by decide +kernel
theorem dX12_notes_25 : decode cX12_notes 25 = .ok (.bipush 93, 2) := by decide +kernel
theorem dX12_notes_27 : decode cX12_notes 27 = .ok (.iload_n 1, 1) := by decide +kernel
theorem dX12_notes_28 : decode cX12_notes 28 = .ok (.iadd, 1) := by decide +kernel
theorem dX12_notes_29 : decode cX12_notes 29 = .ok (.aload_n 0, 1) := by decide +kernel
theorem dX12_notes_30 : decode cX12_notes 30 = .ok (.getfield 13, 3) := by decide +kernel
theorem dX12_notes_33 : decode cX12_notes 33 = .ok (.bipush 110, 2) := by decide +kernel
theorem dX12_notes_35 : decode cX12_notes 35 = .ok (.iload_n 1, 1) := by decide +kernel
theorem dX12_notes_36 : decode cX12_notes 36 = .ok (.iadd, 1) := by decide +kernel
theorem dX12_notes_37 : decode cX12_notes 37 = .ok (.iaload, 1) := by decide +kernel
theorem dX12_notes_38 : decode cX12_notes 38 = .ok (.iastore, 1) := by decide +kernel
theorem dX12_notes_39 : decode cX12_notes 39 = .ok (.iinc 1 1, 3) := by decide +kernel
theorem dX12_notes_42 : decode cX12_notes 42 = .ok (.goto (-28), 3) := by decide +kernel
theorem dX12_notes_45 : decode cX12_notes 45 = .ok (.aload_n 0, 1) := by decide +kernel
theorem dX12_notes_46 : decode cX12_notes 46 = .ok (.getfield 13, 3) := by decide +kernel
theorem dX12_notes_49 : decode cX12_notes 49 = .ok (.bipush 92, 2) := by decide +kernel
theorem dX12_notes_51 : decode cX12_notes 51 = .ok (.dup2, 1) := by decide +kernel
theorem dX12_notes_52 : decode cX12_notes 52 = .ok (.iaload, 1) := by decide +kernel
theorem dX12_notes_53 : decode cX12_notes 53 = .ok (.iconst 1, 1) := by decide +kernel
theorem dX12_notes_54 : decode cX12_notes 54 = .ok (.isub, 1) := by decide +kernel
theorem dX12_notes_55 : decode cX12_notes 55 = .ok (.iastore, 1) := by decide +kernel
theorem dX12_notes_56 : decode cX12_notes 56 = .ok (.iconst 0, 1) := by decide +kernel
theorem dX12_notes_57 : decode cX12_notes 57 = .ok (.istore_n 1, 1) := by decide +kernel
theorem dX12_notes_58 : decode cX12_notes 58 = .ok (.iload_n 1, 1) := by decide +kernel
theorem dX12_notes_59 : decode cX12_notes 59 = .ok (.bipush 17, 2) := by decide +kernel
theorem dX12_notes_61 : decode cX12_notes 61 = .ok (.if_icmp .ge 35, 3) := by decide +kernel
theorem dX12_notes_64 : decode cX12_notes 64 = .ok (.aload_n 0, 1) := by decide +kernel
theorem dX12_notes_65 : decode cX12_notes 65 = .ok (.getfield 13, 3) := by decide +kernel
theorem dX12_notes_68 : decode cX12_notes 68 = .ok (.bipush 93, 2) := by decide +kernel
theorem dX12_notes_70 : decode cX12_notes 70 = .ok (.bipush 17, 2) := by decide +kernel
theorem dX12_notes_72 : decode cX12_notes 72 = .ok (.aload_n 0, 1) := by decide +kernel
theorem dX12_notes_73 : decode cX12_notes 73 = .ok (.getfield 13, 3) := by decide +kernel
theorem dX12_notes_76 : decode cX12_notes 76 = .ok (.bipush 92, 2) := by decide +kernel
theorem dX12_notes_78 : decode cX12_notes 78 = .ok (.iaload, 1) := by decide +kernel
theorem dX12_notes_79 : decode cX12_notes 79 = .ok (.imul, 1) := by decide +kernel
theorem dX12_notes_80 : decode cX12_notes 80 = .ok (.iadd, 1) := by decide +kernel
theorem dX12_notes_81 : decode cX12_notes 81 = .ok (.iload_n 1, 1) := by decide +kernel
theorem dX12_notes_82 : decode cX12_notes 82 = .ok (.iadd, 1) := by decide +kernel
theorem dX12_notes_83 : decode cX12_notes 83 = .ok (.aload_n 0, 1) := by decide +kernel
theorem dX12_notes_84 : decode cX12_notes 84 = .ok (.getfield 48, 3) := by decide +kernel
theorem dX12_notes_87 : decode cX12_notes 87 = .ok (.iload_n 1, 1) := by decide +kernel
theorem dX12_notes_88 : decode cX12_notes 88 = .ok (.iaload, 1) := by decide +kernel
theorem dX12_notes_89 : decode cX12_notes 89 = .ok (.iastore, 1) := by decide +kernel
theorem dX12_notes_90 : decode cX12_notes 90 = .ok (.iinc 1 1, 3) := by decide +kernel
theorem dX12_notes_93 : decode cX12_notes 93 = .ok (.goto (-35), 3) := by decide +kernel
theorem dX12_notes_96 : decode cX12_notes 96 = .ok (.aload_n 0, 1) := by decide +kernel
theorem dX12_notes_97 : decode cX12_notes 97 = .ok (.getfield 13, 3) := by decide +kernel
theorem dX12_notes_100 : decode cX12_notes 100 = .ok (.bipush 92, 2) := by decide +kernel
theorem dX12_notes_102 : decode cX12_notes 102 = .ok (.dup2, 1) := by decide +kernel
theorem dX12_notes_103 : decode cX12_notes 103 = .ok (.iaload, 1) := by decide +kernel
theorem dX12_notes_104 : decode cX12_notes 104 = .ok (.iconst 1, 1) := by decide +kernel
theorem dX12_notes_105 : decode cX12_notes 105 = .ok (.iadd, 1) := by decide +kernel
theorem dX12_notes_106 : decode cX12_notes 106 = .ok (.iastore, 1) := by decide +kernel
theorem dX12_notes_107 : decode cX12_notes 107 = .ok (.return_, 1) := by decide +kernel
theorem dX12_whyPlay_0 : decode cX12_whyPlay 0 = .ok (.aload_n 0, 1) := by decide +kernel
theorem dX12_whyPlay_1 : decode cX12_whyPlay 1 = .ok (.lload_n 1, 1) := by decide +kernel
theorem dX12_whyPlay_2 : decode cX12_whyPlay 2 = .ok (.invokevirtual 244, 3) := by decide +kernel
theorem dX12_whyPlay_5 : decode cX12_whyPlay 5 = .ok (.ifCond .eq 11, 3) := by decide +kernel
theorem dX12_whyPlay_8 : decode cX12_whyPlay 8 = .ok (.aload_n 0, 1) := by decide +kernel
theorem dX12_whyPlay_9 : decode cX12_whyPlay 9 = .ok (.lload_n 3, 1) := by decide +kernel
theorem dX12_whyPlay_10 : decode cX12_whyPlay 10 = .ok (.invokevirtual 248, 3) := by decide +kernel
theorem dX12_whyPlay_13 : decode cX12_whyPlay 13 = .ok (.ifCond .ne 7, 3) := by decide +kernel
theorem dX12_whyPlay_16 : decode cX12_whyPlay 16 = .ok (.iconst 1, 1) := by decide +kernel
theorem dX12_whyPlay_17 : decode cX12_whyPlay 17 = .ok (.goto 24, 3) := by decide +kernel
theorem dX12_whyPlay_20 : decode cX12_whyPlay 20 = .ok (.aload_n 0, 1) := by decide +kernel
theorem dX12_whyPlay_21 : decode cX12_whyPlay 21 = .ok (.getfield 13, 3) := by decide +kernel
theorem dX12_whyPlay_24 : decode cX12_whyPlay 24 = .ok (.bipush 75, 2) := by decide +kernel
theorem dX12_whyPlay_26 : decode cX12_whyPlay 26 = .ok (.iaload, 1) := by decide +kernel
theorem dX12_whyPlay_27 : decode cX12_whyPlay 27 = .ok (.i2l, 1) := by decide +kernel
theorem dX12_whyPlay_28 : decode cX12_whyPlay 28 = .ok (.lload_n 1, 1) := by decide +kernel
theorem dX12_whyPlay_29 : decode cX12_whyPlay 29 = .ok (.l2i, 1) := by decide +kernel
theorem dX12_whyPlay_30 : decode cX12_whyPlay 30 = .ok (.invokestatic 315, 3) := by decide +kernel
theorem dX12_whyPlay_33 : decode cX12_whyPlay 33 = .ok (.ifCond .eq 7, 3) := by decide +kernel
theorem dX12_whyPlay_36 : decode cX12_whyPlay 36 = .ok (.iconst 2, 1) := by decide +kernel
theorem dX12_whyPlay_37 : decode cX12_whyPlay 37 = .ok (.goto 4, 3) := by decide +kernel
theorem dX12_whyPlay_40 : decode cX12_whyPlay 40 = .ok (.iconst 0, 1) := by decide +kernel
theorem dX12_whyPlay_41 : decode cX12_whyPlay 41 = .ok (.ireturn, 1) := by decide +kernel
theorem dX12_whyBest_0 : decode cX12_whyBest 0 = .ok (.aload_n 0, 1) := by decide +kernel
theorem dX12_whyBest_1 : decode cX12_whyBest 1 = .ok (.lload_n 1, 1) := by decide +kernel
theorem dX12_whyBest_2 : decode cX12_whyBest 2 = .ok (.lload_n 3, 1) := by decide +kernel
theorem dX12_whyBest_3 : decode cX12_whyBest 3 = .ok (.invokevirtual 319, 3) := by decide +kernel
theorem dX12_whyBest_6 : decode cX12_whyBest 6 = .ok (.istore 5, 2) := by decide +kernel
theorem dX12_whyBest_8 : decode cX12_whyBest 8 = .ok (.iload 5, 2) := by decide +kernel
theorem dX12_whyBest_10 : decode cX12_whyBest 10 = .ok (.ifCond .eq 8, 3) := by decide +kernel
theorem dX12_whyBest_13 : decode cX12_whyBest 13 = .ok (.iload 5, 2) := by decide +kernel
theorem dX12_whyBest_15 : decode cX12_whyBest 15 = .ok (.goto 21, 3) := by decide +kernel
theorem dX12_whyBest_18 : decode cX12_whyBest 18 = .ok (.aload_n 0, 1) := by decide +kernel
theorem dX12_whyBest_19 : decode cX12_whyBest 19 = .ok (.lload_n 1, 1) := by decide +kernel
theorem dX12_whyBest_20 : decode cX12_whyBest 20 = .ok (.l2i, 1) := by decide +kernel
theorem dX12_whyBest_21 : decode cX12_whyBest 21 = .ok (.lload_n 3, 1) := by decide +kernel
theorem dX12_whyBest_22 : decode cX12_whyBest 22 = .ok (.l2i, 1) := by decide +kernel
theorem dX12_whyBest_23 : decode cX12_whyBest 23 = .ok (.bipush (-20), 2) := by decide +kernel
theorem dX12_whyBest_25 : decode cX12_whyBest 25 = .ok (.invokevirtual 323, 3) := by decide +kernel
theorem dX12_whyBest_28 : decode cX12_whyBest 28 = .ok (.ifCond .eq 7, 3) := by decide +kernel
theorem dX12_whyBest_31 : decode cX12_whyBest 31 = .ok (.iconst 0, 1) := by decide +kernel
theorem dX12_whyBest_32 : decode cX12_whyBest 32 = .ok (.goto 4, 3) := by decide +kernel
theorem dX12_whyBest_35 : decode cX12_whyBest 35 = .ok (.iconst 3, 1) := by decide +kernel
theorem dX12_whyBest_36 : decode cX12_whyBest 36 = .ok (.ireturn, 1) := by decide +kernel
theorem dX12_whyLend_0 : decode cX12_whyLend 0 = .ok (.aload_n 0, 1) := by decide +kernel
theorem dX12_whyLend_1 : decode cX12_whyLend 1 = .ok (.lload_n 1, 1) := by decide +kernel
theorem dX12_whyLend_2 : decode cX12_whyLend 2 = .ok (.invokevirtual 244, 3) := by decide +kernel
theorem dX12_whyLend_5 : decode cX12_whyLend 5 = .ok (.ifCond .eq 29, 3) := by decide +kernel
theorem dX12_whyLend_8 : decode cX12_whyLend 8 = .ok (.aload_n 0, 1) := by decide +kernel
theorem dX12_whyLend_9 : decode cX12_whyLend 9 = .ok (.lload_n 3, 1) := by decide +kernel
theorem dX12_whyLend_10 : decode cX12_whyLend 10 = .ok (.invokevirtual 244, 3) := by decide +kernel
theorem dX12_whyLend_13 : decode cX12_whyLend 13 = .ok (.ifCond .eq 21, 3) := by decide +kernel
theorem dX12_whyLend_16 : decode cX12_whyLend 16 = .ok (.lload_n 1, 1) := by decide +kernel
theorem dX12_whyLend_17 : decode cX12_whyLend 17 = .ok (.lload_n 3, 1) := by decide +kernel
theorem dX12_whyLend_18 : decode cX12_whyLend 18 = .ok (.lcmp, 1) := by decide +kernel
theorem dX12_whyLend_19 : decode cX12_whyLend 19 = .ok (.ifCond .eq 15, 3) := by decide +kernel
theorem dX12_whyLend_22 : decode cX12_whyLend 22 = .ok (.lload 5, 2) := by decide +kernel
theorem dX12_whyLend_24 : decode cX12_whyLend 24 = .ok (.lconst 1, 1) := by decide +kernel
theorem dX12_whyLend_25 : decode cX12_whyLend 25 = .ok (.ldc2_w 327, 3) := by decide +kernel
theorem dX12_whyLend_28 : decode cX12_whyLend 28 = .ok (.invokestatic 152, 3) := by decide +kernel
theorem dX12_whyLend_31 : decode cX12_whyLend 31 = .ok (.ifCond .ne 5, 3) := by decide +kernel
theorem dX12_whyLend_34 : decode cX12_whyLend 34 = .ok (.iconst 1, 1) := by decide +kernel
theorem dX12_whyLend_35 : decode cX12_whyLend 35 = .ok (.ireturn, 1) := by decide +kernel
theorem dX12_whyLend_36 : decode cX12_whyLend 36 = .ok (.aload_n 0, 1) := by decide +kernel
theorem dX12_whyLend_37 : decode cX12_whyLend 37 = .ok (.getfield 13, 3) := by decide +kernel
theorem dX12_whyLend_40 : decode cX12_whyLend 40 = .ok (.bipush 77, 2) := by decide +kernel
theorem dX12_whyLend_42 : decode cX12_whyLend 42 = .ok (.lload_n 1, 1) := by decide +kernel
theorem dX12_whyLend_43 : decode cX12_whyLend 43 = .ok (.l2i, 1) := by decide +kernel
theorem dX12_whyLend_44 : decode cX12_whyLend 44 = .ok (.iadd, 1) := by decide +kernel
theorem dX12_whyLend_45 : decode cX12_whyLend 45 = .ok (.iaload, 1) := by decide +kernel
theorem dX12_whyLend_46 : decode cX12_whyLend 46 = .ok (.i2l, 1) := by decide +kernel
theorem dX12_whyLend_47 : decode cX12_whyLend 47 = .ok (.lload 5, 2) := by decide +kernel
theorem dX12_whyLend_49 : decode cX12_whyLend 49 = .ok (.lsub, 1) := by decide +kernel
theorem dX12_whyLend_50 : decode cX12_whyLend 50 = .ok (.invokestatic 240, 3) := by decide +kernel
theorem dX12_whyLend_53 : decode cX12_whyLend 53 = .ok (.ifCond .eq 27, 3) := by decide +kernel
theorem dX12_whyLend_56 : decode cX12_whyLend 56 = .ok (.aload_n 0, 1) := by decide +kernel
theorem dX12_whyLend_57 : decode cX12_whyLend 57 = .ok (.getfield 13, 3) := by decide +kernel
theorem dX12_whyLend_60 : decode cX12_whyLend 60 = .ok (.bipush 77, 2) := by decide +kernel
theorem dX12_whyLend_62 : decode cX12_whyLend 62 = .ok (.lload_n 3, 1) := by decide +kernel
theorem dX12_whyLend_63 : decode cX12_whyLend 63 = .ok (.l2i, 1) := by decide +kernel
theorem dX12_whyLend_64 : decode cX12_whyLend 64 = .ok (.iadd, 1) := by decide +kernel
theorem dX12_whyLend_65 : decode cX12_whyLend 65 = .ok (.iaload, 1) := by decide +kernel
theorem dX12_whyLend_66 : decode cX12_whyLend 66 = .ok (.i2l, 1) := by decide +kernel
theorem dX12_whyLend_67 : decode cX12_whyLend 67 = .ok (.lload 5, 2) := by decide +kernel
theorem dX12_whyLend_69 : decode cX12_whyLend 69 = .ok (.ladd, 1) := by decide +kernel
theorem dX12_whyLend_70 : decode cX12_whyLend 70 = .ok (.invokestatic 240, 3) := by decide +kernel
theorem dX12_whyLend_73 : decode cX12_whyLend 73 = .ok (.ifCond .eq 7, 3) := by decide +kernel
theorem dX12_whyLend_76 : decode cX12_whyLend 76 = .ok (.iconst 0, 1) := by decide +kernel
theorem dX12_whyLend_77 : decode cX12_whyLend 77 = .ok (.goto 4, 3) := by decide +kernel
theorem dX12_whyLend_80 : decode cX12_whyLend 80 = .ok (.iconst 3, 1) := by decide +kernel
theorem dX12_whyLend_81 : decode cX12_whyLend 81 = .ok (.ireturn, 1) := by decide +kernel
theorem dX12_plays_0 : decode cX12_plays 0 = .ok (.aload_n 0, 1) := by decide +kernel
theorem dX12_plays_1 : decode cX12_plays 1 = .ok (.getfield 13, 3) := by decide +kernel
theorem dX12_plays_4 : decode cX12_plays 4 = .ok (.bipush 77, 2) := by decide +kernel
theorem dX12_plays_6 : decode cX12_plays 6 = .ok (.iload_n 1, 1) := by decide +kernel
theorem dX12_plays_7 : decode cX12_plays 7 = .ok (.iadd, 1) := by decide +kernel
theorem dX12_plays_8 : decode cX12_plays 8 = .ok (.aload_n 0, 1) := by decide +kernel
theorem dX12_plays_9 : decode cX12_plays 9 = .ok (.getfield 293, 3) := by decide +kernel
theorem dX12_plays_12 : decode cX12_plays 12 = .ok (.iastore, 1) := by decide +kernel
theorem dX12_plays_13 : decode cX12_plays 13 = .ok (.aload_n 0, 1) := by decide +kernel
theorem dX12_plays_14 : decode cX12_plays 14 = .ok (.getfield 13, 3) := by decide +kernel
theorem dX12_plays_17 : decode cX12_plays 17 = .ok (.bipush 82, 2) := by decide +kernel
theorem dX12_plays_19 : decode cX12_plays 19 = .ok (.iload_n 1, 1) := by decide +kernel
theorem dX12_plays_20 : decode cX12_plays 20 = .ok (.iadd, 1) := by decide +kernel
theorem dX12_plays_21 : decode cX12_plays 21 = .ok (.iaload, 1) := by decide +kernel
theorem dX12_plays_22 : decode cX12_plays 22 = .ok (.aload_n 0, 1) := by decide +kernel
theorem dX12_plays_23 : decode cX12_plays 23 = .ok (.getfield 290, 3) := by decide +kernel
theorem dX12_plays_26 : decode cX12_plays 26 = .ok (.iadd, 1) := by decide +kernel
theorem dX12_plays_27 : decode cX12_plays 27 = .ok (.istore_n 2, 1) := by decide +kernel
theorem dX12_plays_28 : decode cX12_plays 28 = .ok (.aload_n 0, 1) := by decide +kernel
theorem dX12_plays_29 : decode cX12_plays 29 = .ok (.getfield 13, 3) := by decide +kernel
theorem dX12_plays_32 : decode cX12_plays 32 = .ok (.bipush 82, 2) := by decide +kernel
theorem dX12_plays_34 : decode cX12_plays 34 = .ok (.iload_n 1, 1) := by decide +kernel
theorem dX12_plays_35 : decode cX12_plays 35 = .ok (.iadd, 1) := by decide +kernel
theorem dX12_plays_36 : decode cX12_plays 36 = .ok (.iload_n 2, 1) := by decide +kernel
theorem dX12_plays_37 : decode cX12_plays 37 = .ok (.ldc_w 329, 3) := by decide +kernel
theorem dX12_plays_40 : decode cX12_plays 40 = .ok (.if_icmp .le 9, 3) := by decide +kernel
theorem dX12_plays_43 : decode cX12_plays 43 = .ok (.ldc_w 329, 3) := by decide +kernel
theorem dX12_plays_46 : decode cX12_plays 46 = .ok (.goto 17, 3) := by decide +kernel
theorem dX12_plays_49 : decode cX12_plays 49 = .ok (.iload_n 2, 1) := by decide +kernel
theorem dX12_plays_50 : decode cX12_plays 50 = .ok (.ldc_w 330, 3) := by decide +kernel
theorem dX12_plays_53 : decode cX12_plays 53 = .ok (.if_icmp .ge 9, 3) := by decide +kernel
theorem dX12_plays_56 : decode cX12_plays 56 = .ok (.ldc_w 330, 3) := by decide +kernel
theorem dX12_plays_59 : decode cX12_plays 59 = .ok (.goto 4, 3) := by decide +kernel
theorem dX12_plays_62 : decode cX12_plays 62 = .ok (.iload_n 2, 1) := by decide +kernel
theorem dX12_plays_63 : decode cX12_plays 63 = .ok (.iastore, 1) := by decide +kernel
theorem dX12_plays_64 : decode cX12_plays 64 = .ok (.return_, 1) := by decide +kernel
theorem dX12_lends1_0 : decode cX12_lends1 0 = .ok (.aload_n 0, 1) := by decide +kernel
theorem dX12_lends1_1 : decode cX12_lends1 1 = .ok (.getfield 13, 3) := by decide +kernel
theorem dX12_lends1_4 : decode cX12_lends1 4 = .ok (.bipush 77, 2) := by decide +kernel
theorem dX12_lends1_6 : decode cX12_lends1 6 = .ok (.iload_n 1, 1) := by decide +kernel
theorem dX12_lends1_7 : decode cX12_lends1 7 = .ok (.iadd, 1) := by decide +kernel
theorem dX12_lends1_8 : decode cX12_lends1 8 = .ok (.dup2, 1) := by decide +kernel
theorem dX12_lends1_9 : decode cX12_lends1 9 = .ok (.iaload, 1) := by decide +kernel
theorem dX12_lends1_10 : decode cX12_lends1 10 = .ok (.iload_n 3, 1) := by decide +kernel
theorem dX12_lends1_11 : decode cX12_lends1 11 = .ok (.isub, 1) := by decide +kernel
theorem dX12_lends1_12 : decode cX12_lends1 12 = .ok (.iastore, 1) := by decide +kernel
theorem dX12_lends1_13 : decode cX12_lends1 13 = .ok (.aload_n 0, 1) := by decide +kernel
theorem dX12_lends1_14 : decode cX12_lends1 14 = .ok (.getfield 13, 3) := by decide +kernel
theorem dX12_lends1_17 : decode cX12_lends1 17 = .ok (.bipush 77, 2) := by decide +kernel
theorem dX12_lends1_19 : decode cX12_lends1 19 = .ok (.iload_n 2, 1) := by decide +kernel
theorem dX12_lends1_20 : decode cX12_lends1 20 = .ok (.iadd, 1) := by decide +kernel
theorem dX12_lends1_21 : decode cX12_lends1 21 = .ok (.dup2, 1) := by decide +kernel
theorem dX12_lends1_22 : decode cX12_lends1 22 = .ok (.iaload, 1) := by decide +kernel
theorem dX12_lends1_23 : decode cX12_lends1 23 = .ok (.iload_n 3, 1) := by decide +kernel
theorem dX12_lends1_24 : decode cX12_lends1 24 = .ok (.iadd, 1) := by decide +kernel
theorem dX12_lends1_25 : decode cX12_lends1 25 = .ok (.iastore, 1) := by decide +kernel
theorem dX12_lends1_26 : decode cX12_lends1 26 = .ok (.return_, 1) := by decide +kernel
theorem dX12_goesFriday_0 : decode cX12_goesFriday 0 = .ok (.aload_n 0, 1) := by decide +kernel
theorem dX12_goesFriday_1 : decode cX12_goesFriday 1 = .ok (.getfield 13, 3) := by decide +kernel
theorem dX12_goesFriday_4 : decode cX12_goesFriday 4 = .ok (.bipush 75, 2) := by decide +kernel
theorem dX12_goesFriday_6 : decode cX12_goesFriday 6 = .ok (.iconst 0, 1) := by decide +kernel
theorem dX12_goesFriday_7 : decode cX12_goesFriday 7 = .ok (.iastore, 1) := by decide +kernel
theorem dX12_goesFriday_8 : decode cX12_goesFriday 8 = .ok (.iconst 0, 1) := by decide +kernel
theorem dX12_goesFriday_9 : decode cX12_goesFriday 9 = .ok (.istore_n 1, 1) := by decide +kernel
theorem dX12_goesFriday_10 : decode cX12_goesFriday 10 = .ok (.iload_n 1, 1) := by decide +kernel
theorem dX12_goesFriday_11 : decode cX12_goesFriday 11 = .ok (.aload_n 0, 1) := by decide +kernel
theorem dX12_goesFriday_12 : decode cX12_goesFriday 12 = .ok (.getfield 13, 3) := by decide +kernel
theorem dX12_goesFriday_15 : decode cX12_goesFriday 15 = .ok (.iconst 2, 1) := by decide +kernel
theorem dX12_goesFriday_16 : decode cX12_goesFriday 16 = .ok (.iaload, 1) := by decide +kernel
theorem dX12_goesFriday_17 : decode cX12_goesFriday 17 = .ok (.if_icmp .ge 38, 3) := by decide +kernel
theorem dX12_goesFriday_20 : decode cX12_goesFriday 20 = .ok (.aload_n 0, 1) := by decide +kernel
theorem dX12_goesFriday_21 : decode cX12_goesFriday 21 = .ok (.getfield 13, 3) := by decide +kernel
theorem dX12_goesFriday_24 : decode cX12_goesFriday 24 = .ok (.bipush 75, 2) := by decide +kernel
theorem dX12_goesFriday_26 : decode cX12_goesFriday 26 = .ok (.dup2, 1) := by decide +kernel
theorem dX12_goesFriday_27 : decode cX12_goesFriday 27 = .ok (.iaload, 1) := by decide +kernel
theorem dX12_goesFriday_28 : decode cX12_goesFriday 28 = .ok (.aload_n 0, 1) := by decide +kernel
theorem dX12_goesFriday_29 : decode cX12_goesFriday 29 = .ok (.getfield 13, 3) := by decide +kernel
theorem dX12_goesFriday_32 : decode cX12_goesFriday 32 = .ok (.bipush 77, 2) := by decide +kernel
theorem dX12_goesFriday_34 : decode cX12_goesFriday 34 = .ok (.iload_n 1, 1) := by decide +kernel
theorem dX12_goesFriday_35 : decode cX12_goesFriday 35 = .ok (.iadd, 1) := by decide +kernel
theorem dX12_goesFriday_36 : decode cX12_goesFriday 36 = .ok (.iaload, 1) := by decide +kernel
theorem dX12_goesFriday_37 : decode cX12_goesFriday 37 = .ok (.ifCond .ge 9, 3) := by decide +kernel
theorem dX12_goesFriday_40 : decode cX12_goesFriday 40 = .ok (.iconst 1, 1) := by decide +kernel
theorem dX12_goesFriday_41 : decode cX12_goesFriday 41 = .ok (.iload_n 1, 1) := by decide +kernel
theorem dX12_goesFriday_42 : decode cX12_goesFriday 42 = .ok (.ishl, 1) := by decide +kernel
theorem dX12_goesFriday_43 : decode cX12_goesFriday 43 = .ok (.goto 4, 3) := by decide +kernel
theorem dX12_goesFriday_46 : decode cX12_goesFriday 46 = .ok (.iconst 0, 1) := by decide +kernel
theorem dX12_goesFriday_47 : decode cX12_goesFriday 47 = .ok (.ior, 1) := by decide +kernel
theorem dX12_goesFriday_48 : decode cX12_goesFriday 48 = .ok (.iastore, 1) := by decide +kernel
theorem dX12_goesFriday_49 : decode cX12_goesFriday 49 = .ok (.iinc 1 1, 3) := by decide +kernel
theorem dX12_goesFriday_52 : decode cX12_goesFriday 52 = .ok (.goto (-42), 3) := by decide +kernel
theorem dX12_goesFriday_55 : decode cX12_goesFriday 55 = .ok (.aload_n 0, 1) := by decide +kernel
theorem dX12_goesFriday_56 : decode cX12_goesFriday 56 = .ok (.getfield 13, 3) := by decide +kernel
theorem dX12_goesFriday_59 : decode cX12_goesFriday 59 = .ok (.bipush 76, 2) := by decide +kernel
theorem dX12_goesFriday_61 : decode cX12_goesFriday 61 = .ok (.dup2, 1) := by decide +kernel
theorem dX12_goesFriday_62 : decode cX12_goesFriday 62 = .ok (.iaload, 1) := by decide +kernel
theorem dX12_goesFriday_63 : decode cX12_goesFriday 63 = .ok (.iconst 1, 1) := by decide +kernel
theorem dX12_goesFriday_64 : decode cX12_goesFriday 64 = .ok (.iadd, 1) := by decide +kernel
theorem dX12_goesFriday_65 : decode cX12_goesFriday 65 = .ok (.iastore, 1) := by decide +kernel
theorem dX12_goesFriday_66 : decode cX12_goesFriday 66 = .ok (.return_, 1) := by decide +kernel
theorem dX12_play_0 : decode cX12_play 0 = .ok (.aload_n 0, 1) := by decide +kernel
theorem dX12_play_1 : decode cX12_play 1 = .ok (.iconst 0, 1) := by decide +kernel
theorem dX12_play_2 : decode cX12_play 2 = .ok (.putfield 1, 3) := by decide +kernel
theorem dX12_play_5 : decode cX12_play 5 = .ok (.aload_n 0, 1) := by decide +kernel
theorem dX12_play_6 : decode cX12_play 6 = .ok (.iload_n 1, 1) := by decide +kernel
theorem dX12_play_7 : decode cX12_play 7 = .ok (.i2l, 1) := by decide +kernel
theorem dX12_play_8 : decode cX12_play 8 = .ok (.iload_n 2, 1) := by decide +kernel
theorem dX12_play_9 : decode cX12_play 9 = .ok (.i2l, 1) := by decide +kernel
theorem dX12_play_10 : decode cX12_play 10 = .ok (.invokevirtual 319, 3) := by decide +kernel
theorem dX12_play_13 : decode cX12_play 13 = .ok (.istore_n 3, 1) := by decide +kernel
theorem dX12_play_14 : decode cX12_play 14 = .ok (.iload_n 3, 1) := by decide +kernel
theorem dX12_play_15 : decode cX12_play 15 = .ok (.ifCond .eq 9, 3) := by decide +kernel
theorem dX12_play_18 : decode cX12_play 18 = .ok (.ldc_w 331, 3) := by decide +kernel
theorem dX12_play_21 : decode cX12_play 21 = .ok (.iload_n 3, 1) := by decide +kernel
theorem dX12_play_22 : decode cX12_play 22 = .ok (.isub, 1) := by decide +kernel
theorem dX12_play_23 : decode cX12_play 23 = .ok (.ireturn, 1) := by decide +kernel
theorem dX12_play_24 : decode cX12_play 24 = .ok (.aload_n 0, 1) := by decide +kernel
theorem dX12_play_25 : decode cX12_play 25 = .ok (.invokevirtual 332, 3) := by decide +kernel
theorem dX12_play_28 : decode cX12_play 28 = .ok (.aload_n 0, 1) := by decide +kernel
theorem dX12_play_29 : decode cX12_play 29 = .ok (.iload_n 1, 1) := by decide +kernel
theorem dX12_play_30 : decode cX12_play 30 = .ok (.iload_n 2, 1) := by decide +kernel
theorem dX12_play_31 : decode cX12_play 31 = .ok (.invokevirtual 335, 3) := by decide +kernel
theorem dX12_play_34 : decode cX12_play 34 = .ok (.aload_n 0, 1) := by decide +kernel
theorem dX12_play_35 : decode cX12_play 35 = .ok (.iload_n 1, 1) := by decide +kernel
theorem dX12_play_36 : decode cX12_play 36 = .ok (.invokevirtual 338, 3) := by decide +kernel
theorem dX12_play_39 : decode cX12_play 39 = .ok (.aload_n 0, 1) := by decide +kernel
theorem dX12_play_40 : decode cX12_play 40 = .ok (.invokevirtual 341, 3) := by decide +kernel
theorem dX12_play_43 : decode cX12_play 43 = .ok (.aload_n 0, 1) := by decide +kernel
theorem dX12_play_44 : decode cX12_play 44 = .ok (.getfield 290, 3) := by decide +kernel
theorem dX12_play_47 : decode cX12_play 47 = .ok (.ireturn, 1) := by decide +kernel
theorem dX12_perform_0 : decode cX12_perform 0 = .ok (.aload_n 0, 1) := by decide +kernel
theorem dX12_perform_1 : decode cX12_perform 1 = .ok (.iconst 0, 1) := by decide +kernel
theorem dX12_perform_2 : decode cX12_perform 2 = .ok (.putfield 1, 3) := by decide +kernel
theorem dX12_perform_5 : decode cX12_perform 5 = .ok (.aload_n 0, 1) := by decide +kernel
theorem dX12_perform_6 : decode cX12_perform 6 = .ok (.iload_n 1, 1) := by decide +kernel
theorem dX12_perform_7 : decode cX12_perform 7 = .ok (.i2l, 1) := by decide +kernel
theorem dX12_perform_8 : decode cX12_perform 8 = .ok (.iload_n 2, 1) := by decide +kernel
theorem dX12_perform_9 : decode cX12_perform 9 = .ok (.i2l, 1) := by decide +kernel
theorem dX12_perform_10 : decode cX12_perform 10 = .ok (.invokevirtual 344, 3) := by decide +kernel
theorem dX12_perform_13 : decode cX12_perform 13 = .ok (.istore_n 3, 1) := by decide +kernel
theorem dX12_perform_14 : decode cX12_perform 14 = .ok (.iload_n 3, 1) := by decide +kernel
theorem dX12_perform_15 : decode cX12_perform 15 = .ok (.ifCond .eq 9, 3) := by decide +kernel
theorem dX12_perform_18 : decode cX12_perform 18 = .ok (.ldc_w 331, 3) := by decide +kernel
theorem dX12_perform_21 : decode cX12_perform 21 = .ok (.iload_n 3, 1) := by decide +kernel
theorem dX12_perform_22 : decode cX12_perform 22 = .ok (.isub, 1) := by decide +kernel
theorem dX12_perform_23 : decode cX12_perform 23 = .ok (.ireturn, 1) := by decide +kernel
theorem dX12_perform_24 : decode cX12_perform 24 = .ok (.aload_n 0, 1) := by decide +kernel
theorem dX12_perform_25 : decode cX12_perform 25 = .ok (.invokevirtual 332, 3) := by decide +kernel
theorem dX12_perform_28 : decode cX12_perform 28 = .ok (.aload_n 0, 1) := by decide +kernel
theorem dX12_perform_29 : decode cX12_perform 29 = .ok (.iload_n 1, 1) := by decide +kernel
theorem dX12_perform_30 : decode cX12_perform 30 = .ok (.invokevirtual 338, 3) := by decide +kernel
theorem dX12_perform_33 : decode cX12_perform 33 = .ok (.aload_n 0, 1) := by decide +kernel
theorem dX12_perform_34 : decode cX12_perform 34 = .ok (.invokevirtual 341, 3) := by decide +kernel
theorem dX12_perform_37 : decode cX12_perform 37 = .ok (.aload_n 0, 1) := by decide +kernel
theorem dX12_perform_38 : decode cX12_perform 38 = .ok (.getfield 290, 3) := by decide +kernel
theorem dX12_perform_41 : decode cX12_perform 41 = .ok (.ireturn, 1) := by decide +kernel
theorem dX12_lend_0 : decode cX12_lend 0 = .ok (.aload_n 0, 1) := by decide +kernel
theorem dX12_lend_1 : decode cX12_lend 1 = .ok (.iconst 0, 1) := by decide +kernel
theorem dX12_lend_2 : decode cX12_lend 2 = .ok (.putfield 1, 3) := by decide +kernel
theorem dX12_lend_5 : decode cX12_lend 5 = .ok (.aload_n 0, 1) := by decide +kernel
theorem dX12_lend_6 : decode cX12_lend 6 = .ok (.iload_n 1, 1) := by decide +kernel
theorem dX12_lend_7 : decode cX12_lend 7 = .ok (.i2l, 1) := by decide +kernel
theorem dX12_lend_8 : decode cX12_lend 8 = .ok (.iload_n 2, 1) := by decide +kernel
theorem dX12_lend_9 : decode cX12_lend 9 = .ok (.i2l, 1) := by decide +kernel
theorem dX12_lend_10 : decode cX12_lend 10 = .ok (.iload_n 3, 1) := by decide +kernel
theorem dX12_lend_11 : decode cX12_lend 11 = .ok (.i2l, 1) := by decide +kernel
theorem dX12_lend_12 : decode cX12_lend 12 = .ok (.invokevirtual 347, 3) := by decide +kernel
theorem dX12_lend_15 : decode cX12_lend 15 = .ok (.istore 4, 2) := by decide +kernel
theorem dX12_lend_17 : decode cX12_lend 17 = .ok (.iload 4, 2) := by decide +kernel
theorem dX12_lend_19 : decode cX12_lend 19 = .ok (.ifCond .eq 10, 3) := by decide +kernel
theorem dX12_lend_22 : decode cX12_lend 22 = .ok (.ldc_w 331, 3) := by decide +kernel
theorem dX12_lend_25 : decode cX12_lend 25 = .ok (.iload 4, 2) := by decide +kernel
theorem dX12_lend_27 : decode cX12_lend 27 = .ok (.isub, 1) := by decide +kernel
theorem dX12_lend_28 : decode cX12_lend 28 = .ok (.ireturn, 1) := by decide +kernel
theorem dX12_lend_29 : decode cX12_lend 29 = .ok (.aload_n 0, 1) := by decide +kernel
theorem dX12_lend_30 : decode cX12_lend 30 = .ok (.invokevirtual 332, 3) := by decide +kernel
theorem dX12_lend_33 : decode cX12_lend 33 = .ok (.aload_n 0, 1) := by decide +kernel
theorem dX12_lend_34 : decode cX12_lend 34 = .ok (.iload_n 1, 1) := by decide +kernel
theorem dX12_lend_35 : decode cX12_lend 35 = .ok (.iload_n 2, 1) := by decide +kernel
theorem dX12_lend_36 : decode cX12_lend 36 = .ok (.iload_n 3, 1) := by decide +kernel
theorem dX12_lend_37 : decode cX12_lend 37 = .ok (.invokevirtual 351, 3) := by decide +kernel
theorem dX12_lend_40 : decode cX12_lend 40 = .ok (.aload_n 0, 1) := by decide +kernel
theorem dX12_lend_41 : decode cX12_lend 41 = .ok (.invokevirtual 341, 3) := by decide +kernel
theorem dX12_lend_44 : decode cX12_lend 44 = .ok (.aload_n 0, 1) := by decide +kernel
theorem dX12_lend_45 : decode cX12_lend 45 = .ok (.getfield 13, 3) := by decide +kernel
theorem dX12_lend_48 : decode cX12_lend 48 = .ok (.bipush 77, 2) := by decide +kernel
theorem dX12_lend_50 : decode cX12_lend 50 = .ok (.iload_n 1, 1) := by decide +kernel
theorem dX12_lend_51 : decode cX12_lend 51 = .ok (.iadd, 1) := by decide +kernel
theorem dX12_lend_52 : decode cX12_lend 52 = .ok (.iaload, 1) := by decide +kernel
theorem dX12_lend_53 : decode cX12_lend 53 = .ok (.ireturn, 1) := by decide +kernel
theorem dX12_temper_0 : decode cX12_temper 0 = .ok (.aload_n 0, 1) := by decide +kernel
theorem dX12_temper_1 : decode cX12_temper 1 = .ok (.iconst 0, 1) := by decide +kernel
theorem dX12_temper_2 : decode cX12_temper 2 = .ok (.putfield 1, 3) := by decide +kernel
theorem dX12_temper_5 : decode cX12_temper 5 = .ok (.aload_n 0, 1) := by decide +kernel
theorem dX12_temper_6 : decode cX12_temper 6 = .ok (.iload_n 1, 1) := by decide +kernel
theorem dX12_temper_7 : decode cX12_temper 7 = .ok (.i2l, 1) := by decide +kernel
theorem dX12_temper_8 : decode cX12_temper 8 = .ok (.invokevirtual 244, 3) := by decide +kernel
theorem dX12_temper_11 : decode cX12_temper 11 = .ok (.ifCond .eq 15, 3) := by decide +kernel
theorem dX12_temper_14 : decode cX12_temper 14 = .ok (.iload_n 2, 1) := by decide +kernel
theorem dX12_temper_15 : decode cX12_temper 15 = .ok (.i2l, 1) := by decide +kernel
theorem dX12_temper_16 : decode cX12_temper 16 = .ok (.lconst 0, 1) := by decide +kernel
theorem dX12_temper_17 : decode cX12_temper 17 = .ok (.ldc2_w 355, 3) := by decide +kernel
theorem dX12_temper_20 : decode cX12_temper 20 = .ok (.invokestatic 152, 3) := by decide +kernel
theorem dX12_temper_23 : decode cX12_temper 23 = .ok (.ifCond .ne 7, 3) := by decide +kernel
theorem dX12_temper_26 : decode cX12_temper 26 = .ok (.ldc_w 357, 3) := by decide +kernel
theorem dX12_temper_29 : decode cX12_temper 29 = .ok (.ireturn, 1) := by decide +kernel
theorem dX12_temper_30 : decode cX12_temper 30 = .ok (.aload_n 0, 1) := by decide +kernel
theorem dX12_temper_31 : decode cX12_temper 31 = .ok (.invokevirtual 332, 3) := by decide +kernel
theorem dX12_temper_34 : decode cX12_temper 34 = .ok (.aload_n 0, 1) := by decide +kernel
theorem dX12_temper_35 : decode cX12_temper 35 = .ok (.getfield 13, 3) := by decide +kernel
theorem dX12_temper_38 : decode cX12_temper 38 = .ok (.bipush 87, 2) := by decide +kernel
theorem dX12_temper_40 : decode cX12_temper 40 = .ok (.iload_n 1, 1) := by decide +kernel
theorem dX12_temper_41 : decode cX12_temper 41 = .ok (.iadd, 1) := by decide +kernel
theorem dX12_temper_42 : decode cX12_temper 42 = .ok (.iload_n 2, 1) := by decide +kernel
theorem dX12_temper_43 : decode cX12_temper 43 = .ok (.iastore, 1) := by decide +kernel
theorem dX12_temper_44 : decode cX12_temper 44 = .ok (.aload_n 0, 1) := by decide +kernel
theorem dX12_temper_45 : decode cX12_temper 45 = .ok (.invokevirtual 341, 3) := by decide +kernel
theorem dX12_temper_48 : decode cX12_temper 48 = .ok (.aload_n 0, 1) := by decide +kernel
theorem dX12_temper_49 : decode cX12_temper 49 = .ok (.getfield 48, 3) := by decide +kernel
theorem dX12_temper_52 : decode cX12_temper 52 = .ok (.bipush 12, 2) := by decide +kernel
theorem dX12_temper_54 : decode cX12_temper 54 = .ok (.iload_n 1, 1) := by decide +kernel
theorem dX12_temper_55 : decode cX12_temper 55 = .ok (.iadd, 1) := by decide +kernel
theorem dX12_temper_56 : decode cX12_temper 56 = .ok (.iaload, 1) := by decide +kernel
theorem dX12_temper_57 : decode cX12_temper 57 = .ok (.ireturn, 1) := by decide +kernel
theorem dX12_friday_0 : decode cX12_friday 0 = .ok (.aload_n 0, 1) := by decide +kernel
theorem dX12_friday_1 : decode cX12_friday 1 = .ok (.iconst 0, 1) := by decide +kernel
theorem dX12_friday_2 : decode cX12_friday 2 = .ok (.putfield 1, 3) := by decide +kernel
theorem dX12_friday_5 : decode cX12_friday 5 = .ok (.aload_n 0, 1) := by decide +kernel
theorem dX12_friday_6 : decode cX12_friday 6 = .ok (.invokevirtual 332, 3) := by decide +kernel
theorem dX12_friday_9 : decode cX12_friday 9 = .ok (.aload_n 0, 1) := by decide +kernel
theorem dX12_friday_10 : decode cX12_friday 10 = .ok (.invokevirtual 358, 3) := by decide +kernel
theorem dX12_friday_13 : decode cX12_friday 13 = .ok (.aload_n 0, 1) := by decide +kernel
theorem dX12_friday_14 : decode cX12_friday 14 = .ok (.invokevirtual 341, 3) := by decide +kernel
theorem dX12_friday_17 : decode cX12_friday 17 = .ok (.aload_n 0, 1) := by decide +kernel
theorem dX12_friday_18 : decode cX12_friday 18 = .ok (.getfield 13, 3) := by decide +kernel
theorem dX12_friday_21 : decode cX12_friday 21 = .ok (.bipush 75, 2) := by decide +kernel
theorem dX12_friday_23 : decode cX12_friday 23 = .ok (.iaload, 1) := by decide +kernel
theorem dX12_friday_24 : decode cX12_friday 24 = .ok (.ireturn, 1) := by decide +kernel
theorem dX12_undo_0 : decode cX12_undo 0 = .ok (.aload_n 0, 1) := by decide +kernel
theorem dX12_undo_1 : decode cX12_undo 1 = .ok (.iconst 0, 1) := by decide +kernel
theorem dX12_undo_2 : decode cX12_undo 2 = .ok (.putfield 1, 3) := by decide +kernel
theorem dX12_undo_5 : decode cX12_undo 5 = .ok (.iload_n 1, 1) := by decide +kernel
theorem dX12_undo_6 : decode cX12_undo 6 = .ok (.i2l, 1) := by decide +kernel
theorem dX12_undo_7 : decode cX12_undo 7 = .ok (.lconst 1, 1) := by decide +kernel
theorem dX12_undo_8 : decode cX12_undo 8 = .ok (.ldc2_w 361, 3) := by decide +kernel
theorem dX12_undo_11 : decode cX12_undo 11 = .ok (.invokestatic 152, 3) := by decide +kernel
theorem dX12_undo_14 : decode cX12_undo 14 = .ok (.ifCond .eq 14, 3) := by decide +kernel
theorem dX12_undo_17 : decode cX12_undo 17 = .ok (.iload_n 1, 1) := by decide +kernel
theorem dX12_undo_18 : decode cX12_undo 18 = .ok (.aload_n 0, 1) := by decide +kernel
theorem dX12_undo_19 : decode cX12_undo 19 = .ok (.getfield 13, 3) := by decide +kernel
theorem dX12_undo_22 : decode cX12_undo 22 = .ok (.bipush 92, 2) := by decide +kernel
theorem dX12_undo_24 : decode cX12_undo 24 = .ok (.iaload, 1) := by decide +kernel
theorem dX12_undo_25 : decode cX12_undo 25 = .ok (.if_icmp .le 6, 3) := by decide +kernel
theorem dX12_undo_28 : decode cX12_undo 28 = .ok (.ldc 206, 2) := by decide +kernel
theorem dX12_undo_30 : decode cX12_undo 30 = .ok (.ireturn, 1) := by decide +kernel
theorem dX12_undo_31 : decode cX12_undo 31 = .ok (.aload_n 0, 1) := by decide +kernel
theorem dX12_undo_32 : decode cX12_undo 32 = .ok (.getfield 13, 3) := by decide +kernel
theorem dX12_undo_35 : decode cX12_undo 35 = .ok (.bipush 92, 2) := by decide +kernel
theorem dX12_undo_37 : decode cX12_undo 37 = .ok (.dup2, 1) := by decide +kernel
theorem dX12_undo_38 : decode cX12_undo 38 = .ok (.iaload, 1) := by decide +kernel
theorem dX12_undo_39 : decode cX12_undo 39 = .ok (.iload_n 1, 1) := by decide +kernel
theorem dX12_undo_40 : decode cX12_undo 40 = .ok (.isub, 1) := by decide +kernel
theorem dX12_undo_41 : decode cX12_undo 41 = .ok (.iastore, 1) := by decide +kernel
theorem dX12_undo_42 : decode cX12_undo 42 = .ok (.iconst 0, 1) := by decide +kernel
theorem dX12_undo_43 : decode cX12_undo 43 = .ok (.istore_n 2, 1) := by decide +kernel
theorem dX12_undo_44 : decode cX12_undo 44 = .ok (.iload_n 2, 1) := by decide +kernel
theorem dX12_undo_45 : decode cX12_undo 45 = .ok (.bipush 17, 2) := by decide +kernel
theorem dX12_undo_47 : decode cX12_undo 47 = .ok (.if_icmp .ge 38, 3) := by decide +kernel
theorem dX12_undo_50 : decode cX12_undo 50 = .ok (.aload_n 0, 1) := by decide +kernel
theorem dX12_undo_51 : decode cX12_undo 51 = .ok (.getfield 13, 3) := by decide +kernel
theorem dX12_undo_54 : decode cX12_undo 54 = .ok (.bipush 75, 2) := by decide +kernel
theorem dX12_undo_56 : decode cX12_undo 56 = .ok (.iload_n 2, 1) := by decide +kernel
theorem dX12_undo_57 : decode cX12_undo 57 = .ok (.iadd, 1) := by decide +kernel
theorem dX12_undo_58 : decode cX12_undo 58 = .ok (.aload_n 0, 1) := by decide +kernel
theorem dX12_undo_59 : decode cX12_undo 59 = .ok (.getfield 13, 3) := by decide +kernel
theorem dX12_undo_62 : decode cX12_undo 62 = .ok (.bipush 93, 2) := by decide +kernel
theorem dX12_undo_64 : decode cX12_undo 64 = .ok (.bipush 17, 2) := by decide +kernel
theorem dX12_undo_66 : decode cX12_undo 66 = .ok (.aload_n 0, 1) := by decide +kernel
theorem dX12_undo_67 : decode cX12_undo 67 = .ok (.getfield 13, 3) := by decide +kernel
theorem dX12_undo_70 : decode cX12_undo 70 = .ok (.bipush 92, 2) := by decide +kernel
theorem dX12_undo_72 : decode cX12_undo 72 = .ok (.iaload, 1) := by decide +kernel
theorem dX12_undo_73 : decode cX12_undo 73 = .ok (.imul, 1) := by decide +kernel
theorem dX12_undo_74 : decode cX12_undo 74 = .ok (.iadd, 1) := by decide +kernel
theorem dX12_undo_75 : decode cX12_undo 75 = .ok (.iload_n 2, 1) := by decide +kernel
theorem dX12_undo_76 : decode cX12_undo 76 = .ok (.iadd, 1) := by decide +kernel
theorem dX12_undo_77 : decode cX12_undo 77 = .ok (.iaload, 1) := by decide +kernel
theorem dX12_undo_78 : decode cX12_undo 78 = .ok (.iastore, 1) := by decide +kernel
theorem dX12_undo_79 : decode cX12_undo 79 = .ok (.iinc 2 1, 3) := by decide +kernel
theorem dX12_undo_82 : decode cX12_undo 82 = .ok (.goto (-38), 3) := by decide +kernel
theorem dX12_undo_85 : decode cX12_undo 85 = .ok (.aload_n 0, 1) := by decide +kernel
theorem dX12_undo_86 : decode cX12_undo 86 = .ok (.getfield 13, 3) := by decide +kernel
theorem dX12_undo_89 : decode cX12_undo 89 = .ok (.bipush 92, 2) := by decide +kernel
theorem dX12_undo_91 : decode cX12_undo 91 = .ok (.iaload, 1) := by decide +kernel
theorem dX12_undo_92 : decode cX12_undo 92 = .ok (.ireturn, 1) := by decide +kernel
theorem dX12_whyNot_0 : decode cX12_whyNot 0 = .ok (.lload_n 1, 1) := by decide +kernel
theorem dX12_whyNot_1 : decode cX12_whyNot 1 = .ok (.ldc2_w 363, 3) := by decide +kernel
theorem dX12_whyNot_4 : decode cX12_whyNot 4 = .ok (.lcmp, 1) := by decide +kernel
theorem dX12_whyNot_5 : decode cX12_whyNot 5 = .ok (.ifCond .ne 5, 3) := by decide +kernel
theorem dX12_whyNot_8 : decode cX12_whyNot 8 = .ok (.iconst 0, 1) := by decide +kernel
theorem dX12_whyNot_9 : decode cX12_whyNot 9 = .ok (.ireturn, 1) := by decide +kernel
theorem dX12_whyNot_10 : decode cX12_whyNot 10 = .ok (.lload_n 1, 1) := by decide +kernel
theorem dX12_whyNot_11 : decode cX12_whyNot 11 = .ok (.lconst 0, 1) := by decide +kernel
theorem dX12_whyNot_12 : decode cX12_whyNot 12 = .ok (.ldc2_w 365, 3) := by decide +kernel
theorem dX12_whyNot_15 : decode cX12_whyNot 15 = .ok (.invokestatic 152, 3) := by decide +kernel
theorem dX12_whyNot_18 : decode cX12_whyNot 18 = .ok (.ifCond .eq 18, 3) := by decide +kernel
theorem dX12_whyNot_21 : decode cX12_whyNot 21 = .ok (.aload_n 0, 1) := by decide +kernel
theorem dX12_whyNot_22 : decode cX12_whyNot 22 = .ok (.lload_n 1, 1) := by decide +kernel
theorem dX12_whyNot_23 : decode cX12_whyNot 23 = .ok (.ldc2_w 361, 3) := by decide +kernel
theorem dX12_whyNot_26 : decode cX12_whyNot 26 = .ok (.ldiv, 1) := by decide +kernel
theorem dX12_whyNot_27 : decode cX12_whyNot 27 = .ok (.lload_n 1, 1) := by decide +kernel
theorem dX12_whyNot_28 : decode cX12_whyNot 28 = .ok (.ldc2_w 361, 3) := by decide +kernel
theorem dX12_whyNot_31 : decode cX12_whyNot 31 = .ok (.lrem, 1) := by decide +kernel
theorem dX12_whyNot_32 : decode cX12_whyNot 32 = .ok (.invokevirtual 319, 3) := by decide +kernel
theorem dX12_whyNot_35 : decode cX12_whyNot 35 = .ok (.ireturn, 1) := by decide +kernel
theorem dX12_whyNot_36 : decode cX12_whyNot 36 = .ok (.lload_n 1, 1) := by decide +kernel
theorem dX12_whyNot_37 : decode cX12_whyNot 37 = .ok (.ldc2_w 367, 3) := by decide +kernel
theorem dX12_whyNot_40 : decode cX12_whyNot 40 = .ok (.ldc2_w 369, 3) := by decide +kernel
theorem dX12_whyNot_43 : decode cX12_whyNot 43 = .ok (.invokestatic 152, 3) := by decide +kernel
theorem dX12_whyNot_46 : decode cX12_whyNot 46 = .ok (.ifCond .eq 22, 3) := by decide +kernel
theorem dX12_whyNot_49 : decode cX12_whyNot 49 = .ok (.aload_n 0, 1) := by decide +kernel
theorem dX12_whyNot_50 : decode cX12_whyNot 50 = .ok (.lload_n 1, 1) := by decide +kernel
theorem dX12_whyNot_51 : decode cX12_whyNot 51 = .ok (.ldc2_w 367, 3) := by decide +kernel
theorem dX12_whyNot_54 : decode cX12_whyNot 54 = .ok (.lsub, 1) := by decide +kernel
theorem dX12_whyNot_55 : decode cX12_whyNot 55 = .ok (.ldc2_w 361, 3) := by decide +kernel
theorem dX12_whyNot_58 : decode cX12_whyNot 58 = .ok (.ldiv, 1) := by decide +kernel
theorem dX12_whyNot_59 : decode cX12_whyNot 59 = .ok (.lload_n 1, 1) := by decide +kernel
theorem dX12_whyNot_60 : decode cX12_whyNot 60 = .ok (.ldc2_w 361, 3) := by decide +kernel
theorem dX12_whyNot_63 : decode cX12_whyNot 63 = .ok (.lrem, 1) := by decide +kernel
theorem dX12_whyNot_64 : decode cX12_whyNot 64 = .ok (.invokevirtual 344, 3) := by decide +kernel
theorem dX12_whyNot_67 : decode cX12_whyNot 67 = .ok (.ireturn, 1) := by decide +kernel
theorem dX12_whyNot_68 : decode cX12_whyNot 68 = .ok (.lload_n 1, 1) := by decide +kernel
theorem dX12_whyNot_69 : decode cX12_whyNot 69 = .ok (.ldc2_w 371, 3) := by decide +kernel
theorem dX12_whyNot_72 : decode cX12_whyNot 72 = .ok (.ldc2_w 373, 3) := by decide +kernel
theorem dX12_whyNot_75 : decode cX12_whyNot 75 = .ok (.invokestatic 152, 3) := by decide +kernel
theorem dX12_whyNot_78 : decode cX12_whyNot 78 = .ok (.ifCond .eq 33, 3) := by decide +kernel
theorem dX12_whyNot_81 : decode cX12_whyNot 81 = .ok (.aload_n 0, 1) := by decide +kernel
theorem dX12_whyNot_82 : decode cX12_whyNot 82 = .ok (.lload_n 1, 1) := by decide +kernel
theorem dX12_whyNot_83 : decode cX12_whyNot 83 = .ok (.ldc2_w 371, 3) := by decide +kernel
theorem dX12_whyNot_86 : decode cX12_whyNot 86 = .ok (.lsub, 1) := by decide +kernel
theorem dX12_whyNot_87 : decode cX12_whyNot 87 = .ok (.ldc2_w 371, 3) := by decide +kernel
theorem dX12_whyNot_90 : decode cX12_whyNot 90 = .ok (.ldiv, 1) := by decide +kernel
theorem dX12_whyNot_91 : decode cX12_whyNot 91 = .ok (.lload_n 1, 1) := by decide +kernel
theorem dX12_whyNot_92 : decode cX12_whyNot 92 = .ok (.ldc2_w 367, 3) := by decide +kernel
theorem dX12_whyNot_95 : decode cX12_whyNot 95 = .ok (.ldiv, 1) := by decide +kernel
theorem dX12_whyNot_96 : decode cX12_whyNot 96 = .ok (.ldc2_w 361, 3) := by decide +kernel
theorem dX12_whyNot_99 : decode cX12_whyNot 99 = .ok (.lrem, 1) := by decide +kernel
theorem dX12_whyNot_100 : decode cX12_whyNot 100 = .ok (.lload_n 1, 1) := by decide +kernel
theorem dX12_whyNot_101 : decode cX12_whyNot 101 = .ok (.ldc2_w 367, 3) := by decide +kernel
theorem dX12_whyNot_104 : decode cX12_whyNot 104 = .ok (.lrem, 1) := by decide +kernel
theorem dX12_whyNot_105 : decode cX12_whyNot 105 = .ok (.invokevirtual 347, 3) := by decide +kernel
theorem dX12_whyNot_108 : decode cX12_whyNot 108 = .ok (.goto 4, 3) := by decide +kernel
theorem dX12_whyNot_111 : decode cX12_whyNot 111 = .ok (.iconst 1, 1) := by decide +kernel
theorem dX12_whyNot_112 : decode cX12_whyNot 112 = .ok (.ireturn, 1) := by decide +kernel
theorem dX12_acts_0 : decode cX12_acts 0 = .ok (.iload_n 1, 1) := by decide +kernel
theorem dX12_acts_1 : decode cX12_acts 1 = .ok (.iconst (-1), 1) := by decide +kernel
theorem dX12_acts_2 : decode cX12_acts 2 = .ok (.if_icmp .ne 10, 3) := by decide +kernel
theorem dX12_acts_5 : decode cX12_acts 5 = .ok (.aload_n 0, 1) := by decide +kernel
theorem dX12_acts_6 : decode cX12_acts 6 = .ok (.invokevirtual 358, 3) := by decide +kernel
theorem dX12_acts_9 : decode cX12_acts 9 = .ok (.goto 77, 3) := by decide +kernel
theorem dX12_acts_12 : decode cX12_acts 12 = .ok (.iload_n 1, 1) := by decide +kernel
theorem dX12_acts_13 : decode cX12_acts 13 = .ok (.bipush 100, 2) := by decide +kernel
theorem dX12_acts_15 : decode cX12_acts 15 = .ok (.if_icmp .ge 26, 3) := by decide +kernel
theorem dX12_acts_18 : decode cX12_acts 18 = .ok (.aload_n 0, 1) := by decide +kernel
theorem dX12_acts_19 : decode cX12_acts 19 = .ok (.iload_n 1, 1) := by decide +kernel
theorem dX12_acts_20 : decode cX12_acts 20 = .ok (.bipush 10, 2) := by decide +kernel
theorem dX12_acts_22 : decode cX12_acts 22 = .ok (.idiv, 1) := by decide +kernel
theorem dX12_acts_23 : decode cX12_acts 23 = .ok (.iload_n 1, 1) := by decide +kernel
theorem dX12_acts_24 : decode cX12_acts 24 = .ok (.bipush 10, 2) := by decide +kernel
theorem dX12_acts_26 : decode cX12_acts 26 = .ok (.irem, 1) := by decide +kernel
theorem dX12_acts_27 : decode cX12_acts 27 = .ok (.invokevirtual 335, 3) := by decide +kernel
theorem dX12_acts_30 : decode cX12_acts 30 = .ok (.aload_n 0, 1) := by decide +kernel
theorem dX12_acts_31 : decode cX12_acts 31 = .ok (.iload_n 1, 1) := by decide +kernel
theorem dX12_acts_32 : decode cX12_acts 32 = .ok (.bipush 10, 2) := by decide +kernel
theorem dX12_acts_34 : decode cX12_acts 34 = .ok (.idiv, 1) := by decide +kernel
theorem dX12_acts_35 : decode cX12_acts 35 = .ok (.invokevirtual 338, 3) := by decide +kernel
theorem dX12_acts_38 : decode cX12_acts 38 = .ok (.goto 48, 3) := by decide +kernel
theorem dX12_acts_41 : decode cX12_acts 41 = .ok (.iload_n 1, 1) := by decide +kernel
theorem dX12_acts_42 : decode cX12_acts 42 = .ok (.sipush 200, 3) := by decide +kernel
theorem dX12_acts_45 : decode cX12_acts 45 = .ok (.if_icmp .ge 17, 3) := by decide +kernel
theorem dX12_acts_48 : decode cX12_acts 48 = .ok (.aload_n 0, 1) := by decide +kernel
theorem dX12_acts_49 : decode cX12_acts 49 = .ok (.iload_n 1, 1) := by decide +kernel
theorem dX12_acts_50 : decode cX12_acts 50 = .ok (.bipush 100, 2) := by decide +kernel
theorem dX12_acts_52 : decode cX12_acts 52 = .ok (.isub, 1) := by decide +kernel
theorem dX12_acts_53 : decode cX12_acts 53 = .ok (.bipush 10, 2) := by decide +kernel
theorem dX12_acts_55 : decode cX12_acts 55 = .ok (.idiv, 1) := by decide +kernel
theorem dX12_acts_56 : decode cX12_acts 56 = .ok (.invokevirtual 338, 3) := by decide +kernel
theorem dX12_acts_59 : decode cX12_acts 59 = .ok (.goto 27, 3) := by decide +kernel
theorem dX12_acts_62 : decode cX12_acts 62 = .ok (.aload_n 0, 1) := by decide +kernel
theorem dX12_acts_63 : decode cX12_acts 63 = .ok (.iload_n 1, 1) := by decide +kernel
theorem dX12_acts_64 : decode cX12_acts 64 = .ok (.sipush 1000, 3) := by decide +kernel
theorem dX12_acts_67 : decode cX12_acts 67 = .ok (.isub, 1) := by decide +kernel
theorem dX12_acts_68 : decode cX12_acts 68 = .ok (.sipush 1000, 3) := by decide +kernel
theorem dX12_acts_71 : decode cX12_acts 71 = .ok (.idiv, 1) := by decide +kernel
theorem dX12_acts_72 : decode cX12_acts 72 = .ok (.iload_n 1, 1) := by decide +kernel
theorem dX12_acts_73 : decode cX12_acts 73 = .ok (.bipush 100, 2) := by decide +kernel
theorem dX12_acts_75 : decode cX12_acts 75 = .ok (.idiv, 1) := by decide +kernel
theorem dX12_acts_76 : decode cX12_acts 76 = .ok (.bipush 10, 2) := by decide +kernel
theorem dX12_acts_78 : decode cX12_acts 78 = .ok (.irem, 1) := by decide +kernel
theorem dX12_acts_79 : decode cX12_acts 79 = .ok (.iload_n 1, 1) := by decide +kernel
theorem dX12_acts_80 : decode cX12_acts 80 = .ok (.bipush 100, 2) := by decide +kernel
theorem dX12_acts_82 : decode cX12_acts 82 = .ok (.irem, 1) := by decide +kernel
theorem dX12_acts_83 : decode cX12_acts 83 = .ok (.invokevirtual 351, 3) := by decide +kernel
theorem dX12_acts_86 : decode cX12_acts 86 = .ok (.return_, 1) := by decide +kernel
theorem dX12_tells_0 : decode cX12_tells 0 = .ok (.aload_n 0, 1) := by decide +kernel
theorem dX12_tells_1 : decode cX12_tells 1 = .ok (.iconst 0, 1) := by decide +kernel
theorem dX12_tells_2 : decode cX12_tells 2 = .ok (.putfield 375, 3) := by decide +kernel
theorem dX12_tells_5 : decode cX12_tells 5 = .ok (.iconst 0, 1) := by decide +kernel
theorem dX12_tells_6 : decode cX12_tells 6 = .ok (.istore_n 2, 1) := by decide +kernel
theorem dX12_tells_7 : decode cX12_tells 7 = .ok (.iload_n 2, 1) := by decide +kernel
theorem dX12_tells_8 : decode cX12_tells 8 = .ok (.aload_n 0, 1) := by decide +kernel
theorem dX12_tells_9 : decode cX12_tells 9 = .ok (.getfield 79, 3) := by decide +kernel
theorem dX12_tells_12 : decode cX12_tells 12 = .ok (.iload_n 1, 1) := by decide +kernel
theorem dX12_tells_13 : decode cX12_tells 13 = .ok (.iaload, 1) := by decide +kernel
theorem dX12_tells_14 : decode cX12_tells 14 = .ok (.if_icmp .ge 53, 3) := by decide +kernel
theorem dX12_tells_17 : decode cX12_tells 17 = .ok (.aload_n 0, 1) := by decide +kernel
theorem dX12_tells_18 : decode cX12_tells 18 = .ok (.aload_n 0, 1) := by decide +kernel
theorem dX12_tells_19 : decode cX12_tells 19 = .ok (.aload_n 0, 1) := by decide +kernel
theorem dX12_tells_20 : decode cX12_tells 20 = .ok (.getfield 82, 3) := by decide +kernel
theorem dX12_tells_23 : decode cX12_tells 23 = .ok (.bipush 40, 2) := by decide +kernel
theorem dX12_tells_25 : decode cX12_tells 25 = .ok (.iload_n 1, 1) := by decide +kernel
theorem dX12_tells_26 : decode cX12_tells 26 = .ok (.imul, 1) := by decide +kernel
theorem dX12_tells_27 : decode cX12_tells 27 = .ok (.iload_n 2, 1) := by decide +kernel
theorem dX12_tells_28 : decode cX12_tells 28 = .ok (.iadd, 1) := by decide +kernel
theorem dX12_tells_29 : decode cX12_tells 29 = .ok (.laload, 1) := by decide +kernel
theorem dX12_tells_30 : decode cX12_tells 30 = .ok (.invokevirtual 378, 3) := by decide +kernel
theorem dX12_tells_33 : decode cX12_tells 33 = .ok (.putfield 375, 3) := by decide +kernel
theorem dX12_tells_36 : decode cX12_tells 36 = .ok (.aload_n 0, 1) := by decide +kernel
theorem dX12_tells_37 : decode cX12_tells 37 = .ok (.getfield 375, 3) := by decide +kernel
theorem dX12_tells_40 : decode cX12_tells 40 = .ok (.ifCond .eq 5, 3) := by decide +kernel
theorem dX12_tells_43 : decode cX12_tells 43 = .ok (.iload_n 2, 1) := by decide +kernel
theorem dX12_tells_44 : decode cX12_tells 44 = .ok (.ireturn, 1) := by decide +kernel
theorem dX12_tells_45 : decode cX12_tells 45 = .ok (.aload_n 0, 1) := by decide +kernel
theorem dX12_tells_46 : decode cX12_tells 46 = .ok (.aload_n 0, 1) := by decide +kernel
theorem dX12_tells_47 : decode cX12_tells 47 = .ok (.getfield 82, 3) := by decide +kernel
theorem dX12_tells_50 : decode cX12_tells 50 = .ok (.bipush 40, 2) := by decide +kernel
theorem dX12_tells_52 : decode cX12_tells 52 = .ok (.iload_n 1, 1) := by decide +kernel
theorem dX12_tells_53 : decode cX12_tells 53 = .ok (.imul, 1) := by decide +kernel
theorem dX12_tells_54 : decode cX12_tells 54 = .ok (.iload_n 2, 1) := by decide +kernel
theorem dX12_tells_55 : decode cX12_tells 55 = .ok (.iadd, 1) := by decide +kernel
theorem dX12_tells_56 : decode cX12_tells 56 = .ok (.laload, 1) := by decide +kernel
theorem dX12_tells_57 : decode cX12_tells 57 = .ok (.l2i, 1) := by decide +kernel
theorem dX12_tells_58 : decode cX12_tells 58 = .ok (.invokevirtual 382, 3) := by decide +kernel
theorem dX12_tells_61 : decode cX12_tells 61 = .ok (.iinc 2 1, 3) := by decide +kernel
theorem dX12_tells_64 : decode cX12_tells 64 = .ok (.goto (-57), 3) := by decide +kernel
theorem dX12_tells_67 : decode cX12_tells 67 = .ok (.aload_n 0, 1) := by decide +kernel
theorem dX12_tells_68 : decode cX12_tells 68 = .ok (.getfield 79, 3) := by decide +kernel
theorem dX12_tells_71 : decode cX12_tells 71 = .ok (.iload_n 1, 1) := by decide +kernel
theorem dX12_tells_72 : decode cX12_tells 72 = .ok (.iaload, 1) := by decide +kernel
theorem dX12_tells_73 : decode cX12_tells 73 = .ok (.ireturn, 1) := by decide +kernel
theorem dX12_noTray_0 : decode cX12_noTray 0 = .ok (.iload_n 1, 1) := by decide +kernel
theorem dX12_noTray_1 : decode cX12_noTray 1 = .ok (.i2l, 1) := by decide +kernel
theorem dX12_noTray_2 : decode cX12_noTray 2 = .ok (.lconst 0, 1) := by decide +kernel
theorem dX12_noTray_3 : decode cX12_noTray 3 = .ok (.ldc2_w 385, 3) := by decide +kernel
theorem dX12_noTray_6 : decode cX12_noTray 6 = .ok (.invokestatic 152, 3) := by decide +kernel
theorem dX12_noTray_9 : decode cX12_noTray 9 = .ok (.ifCond .ne 8, 3) := by decide +kernel
theorem dX12_noTray_12 : decode cX12_noTray 12 = .ok (.ldc 247, 2) := by decide +kernel
theorem dX12_noTray_14 : decode cX12_noTray 14 = .ok (.goto 20, 3) := by decide +kernel
theorem dX12_noTray_17 : decode cX12_noTray 17 = .ok (.aload_n 0, 1) := by decide +kernel
theorem dX12_noTray_18 : decode cX12_noTray 18 = .ok (.getfield 76, 3) := by decide +kernel
theorem dX12_noTray_21 : decode cX12_noTray 21 = .ok (.iload_n 1, 1) := by decide +kernel
theorem dX12_noTray_22 : decode cX12_noTray 22 = .ok (.iaload, 1) := by decide +kernel
theorem dX12_noTray_23 : decode cX12_noTray 23 = .ok (.iconst (-1), 1) := by decide +kernel
theorem dX12_noTray_24 : decode cX12_noTray 24 = .ok (.if_icmp .ne 9, 3) := by decide +kernel
theorem dX12_noTray_27 : decode cX12_noTray 27 = .ok (.ldc_w 387, 3) := by decide +kernel
theorem dX12_noTray_30 : decode cX12_noTray 30 = .ok (.goto 4, 3) := by decide +kernel
theorem dX12_noTray_33 : decode cX12_noTray 33 = .ok (.iconst 0, 1) := by decide +kernel
theorem dX12_noTray_34 : decode cX12_noTray 34 = .ok (.ireturn, 1) := by decide +kernel
theorem dX12_sumOf_0 : decode cX12_sumOf 0 = .ok (.iconst 0, 1) := by decide +kernel
theorem dX12_sumOf_1 : decode cX12_sumOf 1 = .ok (.istore_n 2, 1) := by decide +kernel
theorem dX12_sumOf_2 : decode cX12_sumOf 2 = .ok (.iconst 0, 1) := by decide +kernel
theorem dX12_sumOf_3 : decode cX12_sumOf 3 = .ok (.istore_n 3, 1) := by decide +kernel
theorem dX12_sumOf_4 : decode cX12_sumOf 4 = .ok (.iload_n 3, 1) := by decide +kernel
theorem dX12_sumOf_5 : decode cX12_sumOf 5 = .ok (.aload_n 0, 1) := by decide +kernel
theorem dX12_sumOf_6 : decode cX12_sumOf 6 = .ok (.getfield 13, 3) := by decide +kernel
theorem dX12_sumOf_9 : decode cX12_sumOf 9 = .ok (.iconst 2, 1) := by decide +kernel
theorem dX12_sumOf_10 : decode cX12_sumOf 10 = .ok (.iaload, 1) := by decide +kernel
theorem dX12_sumOf_11 : decode cX12_sumOf 11 = .ok (.if_icmp .ge 20, 3) := by decide +kernel
theorem dX12_sumOf_14 : decode cX12_sumOf 14 = .ok (.iload_n 2, 1) := by decide +kernel
theorem dX12_sumOf_15 : decode cX12_sumOf 15 = .ok (.aload_n 0, 1) := by decide +kernel
theorem dX12_sumOf_16 : decode cX12_sumOf 16 = .ok (.getfield 13, 3) := by decide +kernel
theorem dX12_sumOf_19 : decode cX12_sumOf 19 = .ok (.iload_n 1, 1) := by decide +kernel
theorem dX12_sumOf_20 : decode cX12_sumOf 20 = .ok (.iload_n 3, 1) := by decide +kernel
theorem dX12_sumOf_21 : decode cX12_sumOf 21 = .ok (.iadd, 1) := by decide +kernel
theorem dX12_sumOf_22 : decode cX12_sumOf 22 = .ok (.iaload, 1) := by decide +kernel
theorem dX12_sumOf_23 : decode cX12_sumOf 23 = .ok (.iadd, 1) := by decide +kernel
theorem dX12_sumOf_24 : decode cX12_sumOf 24 = .ok (.istore_n 2, 1) := by decide +kernel
theorem dX12_sumOf_25 : decode cX12_sumOf 25 = .ok (.iinc 3 1, 3) := by decide +kernel
theorem dX12_sumOf_28 : decode cX12_sumOf 28 = .ok (.goto (-24), 3) := by decide +kernel
theorem dX12_sumOf_31 : decode cX12_sumOf 31 = .ok (.iload_n 2, 1) := by decide +kernel
theorem dX12_sumOf_32 : decode cX12_sumOf 32 = .ok (.ireturn, 1) := by decide +kernel
theorem dX12_judge_0 : decode cX12_judge 0 = .ok (.aload_n 0, 1) := by decide +kernel
theorem dX12_judge_1 : decode cX12_judge 1 = .ok (.iconst 0, 1) := by decide +kernel
theorem dX12_judge_2 : decode cX12_judge 2 = .ok (.putfield 1, 3) := by decide +kernel
theorem dX12_judge_5 : decode cX12_judge 5 = .ok (.iload_n 2, 1) := by decide +kernel
theorem dX12_judge_6 : decode cX12_judge 6 = .ok (.i2l, 1) := by decide +kernel
theorem dX12_judge_7 : decode cX12_judge 7 = .ok (.lconst 0, 1) := by decide +kernel
theorem dX12_judge_8 : decode cX12_judge 8 = .ok (.ldc2_w 385, 3) := by decide +kernel
theorem dX12_judge_11 : decode cX12_judge 11 = .ok (.invokestatic 152, 3) := by decide +kernel
theorem dX12_judge_14 : decode cX12_judge 14 = .ok (.ifCond .ne 6, 3) := by decide +kernel
theorem dX12_judge_17 : decode cX12_judge 17 = .ok (.ldc 247, 2) := by decide +kernel
theorem dX12_judge_19 : decode cX12_judge 19 = .ok (.ireturn, 1) := by decide +kernel
theorem dX12_judge_20 : decode cX12_judge 20 = .ok (.aload_n 0, 1) := by decide +kernel
theorem dX12_judge_21 : decode cX12_judge 21 = .ok (.iload_n 1, 1) := by decide +kernel
theorem dX12_judge_22 : decode cX12_judge 22 = .ok (.invokevirtual 388, 3) := by decide +kernel
theorem dX12_judge_25 : decode cX12_judge 25 = .ok (.istore_n 3, 1) := by decide +kernel
theorem dX12_judge_26 : decode cX12_judge 26 = .ok (.iload_n 3, 1) := by decide +kernel
theorem dX12_judge_27 : decode cX12_judge 27 = .ok (.ifCond .eq 5, 3) := by decide +kernel
theorem dX12_judge_30 : decode cX12_judge 30 = .ok (.iload_n 3, 1) := by decide +kernel
theorem dX12_judge_31 : decode cX12_judge 31 = .ok (.ireturn, 1) := by decide +kernel
theorem dX12_judge_32 : decode cX12_judge 32 = .ok (.aload_n 0, 1) := by decide +kernel
theorem dX12_judge_33 : decode cX12_judge 33 = .ok (.invokevirtual 332, 3) := by decide +kernel
theorem dX12_judge_36 : decode cX12_judge 36 = .ok (.aload_n 0, 1) := by decide +kernel
theorem dX12_judge_37 : decode cX12_judge 37 = .ok (.iload_n 1, 1) := by decide +kernel
theorem dX12_judge_38 : decode cX12_judge 38 = .ok (.invokevirtual 391, 3) := by decide +kernel
theorem dX12_judge_41 : decode cX12_judge 41 = .ok (.istore 4, 2) := by decide +kernel
theorem dX12_judge_43 : decode cX12_judge 43 = .ok (.aload_n 0, 1) := by decide +kernel
theorem dX12_judge_44 : decode cX12_judge 44 = .ok (.bipush 77, 2) := by decide +kernel
theorem dX12_judge_46 : decode cX12_judge 46 = .ok (.invokevirtual 394, 3) := by decide +kernel
theorem dX12_judge_49 : decode cX12_judge 49 = .ok (.istore 5, 2) := by decide +kernel
theorem dX12_judge_51 : decode cX12_judge 51 = .ok (.aload_n 0, 1) := by decide +kernel
theorem dX12_judge_52 : decode cX12_judge 52 = .ok (.bipush 82, 2) := by decide +kernel
theorem dX12_judge_54 : decode cX12_judge 54 = .ok (.invokevirtual 394, 3) := by decide +kernel
theorem dX12_judge_57 : decode cX12_judge 57 = .ok (.istore 6, 2) := by decide +kernel
theorem dX12_judge_59 : decode cX12_judge 59 = .ok (.aload_n 0, 1) := by decide +kernel
theorem dX12_judge_60 : decode cX12_judge 60 = .ok (.invokevirtual 397, 3) := by decide +kernel
theorem dX12_judge_63 : decode cX12_judge 63 = .ok (.iload_n 2, 1) := by decide +kernel
theorem dX12_judge_64 : decode cX12_judge 64 = .ok (.ifCond .ne 19, 3) := by decide +kernel
theorem dX12_judge_67 : decode cX12_judge 67 = .ok (.aload_n 0, 1) := by decide +kernel
theorem dX12_judge_68 : decode cX12_judge 68 = .ok (.getfield 375, 3) := by decide +kernel
theorem dX12_judge_71 : decode cX12_judge 71 = .ok (.ifCond .ne 7, 3) := by decide +kernel
theorem dX12_judge_74 : decode cX12_judge 74 = .ok (.iconst (-1), 1) := by decide +kernel
theorem dX12_judge_75 : decode cX12_judge 75 = .ok (.goto 32, 3) := by decide +kernel
theorem dX12_judge_78 : decode cX12_judge 78 = .ok (.iload 4, 2) := by decide +kernel
theorem dX12_judge_80 : decode cX12_judge 80 = .ok (.goto 27, 3) := by decide +kernel
theorem dX12_judge_83 : decode cX12_judge 83 = .ok (.iload_n 2, 1) := by decide +kernel
theorem dX12_judge_84 : decode cX12_judge 84 = .ok (.iconst 1, 1) := by decide +kernel
theorem dX12_judge_85 : decode cX12_judge 85 = .ok (.if_icmp .ne 10, 3) := by decide +kernel
theorem dX12_judge_88 : decode cX12_judge 88 = .ok (.aload_n 0, 1) := by decide +kernel
theorem dX12_judge_89 : decode cX12_judge 89 = .ok (.getfield 375, 3) := by decide +kernel
theorem dX12_judge_92 : decode cX12_judge 92 = .ok (.goto 15, 3) := by decide +kernel
theorem dX12_judge_95 : decode cX12_judge 95 = .ok (.iload_n 2, 1) := by decide +kernel
theorem dX12_judge_96 : decode cX12_judge 96 = .ok (.iconst 2, 1) := by decide +kernel
theorem dX12_judge_97 : decode cX12_judge 97 = .ok (.if_icmp .ne 8, 3) := by decide +kernel
theorem dX12_judge_100 : decode cX12_judge 100 = .ok (.iload 5, 2) := by decide +kernel
theorem dX12_judge_102 : decode cX12_judge 102 = .ok (.goto 5, 3) := by decide +kernel
theorem dX12_judge_105 : decode cX12_judge 105 = .ok (.iload 6, 2) := by decide +kernel
theorem dX12_judge_107 : decode cX12_judge 107 = .ok (.ireturn, 1) := by decide +kernel
theorem dX12_does_0 : decode cX12_does 0 = .ok (.aload_n 0, 1) := by decide +kernel
theorem dX12_does_1 : decode cX12_does 1 = .ok (.iconst 0, 1) := by decide +kernel
theorem dX12_does_2 : decode cX12_does 2 = .ok (.putfield 1, 3) := by decide +kernel
theorem dX12_does_5 : decode cX12_does 5 = .ok (.aload_n 0, 1) := by decide +kernel
theorem dX12_does_6 : decode cX12_does 6 = .ok (.iload_n 1, 1) := by decide +kernel
theorem dX12_does_7 : decode cX12_does 7 = .ok (.invokevirtual 388, 3) := by decide +kernel
theorem dX12_does_10 : decode cX12_does 10 = .ok (.istore_n 2, 1) := by decide +kernel
theorem dX12_does_11 : decode cX12_does 11 = .ok (.iload_n 2, 1) := by decide +kernel
theorem dX12_does_12 : decode cX12_does 12 = .ok (.ifCond .eq 5, 3) := by decide +kernel
theorem dX12_does_15 : decode cX12_does 15 = .ok (.iload_n 2, 1) := by decide +kernel
theorem dX12_does_16 : decode cX12_does 16 = .ok (.ireturn, 1) := by decide +kernel
theorem dX12_does_17 : decode cX12_does 17 = .ok (.aload_n 0, 1) := by decide +kernel
theorem dX12_does_18 : decode cX12_does 18 = .ok (.invokevirtual 332, 3) := by decide +kernel
theorem dX12_does_21 : decode cX12_does 21 = .ok (.aload_n 0, 1) := by decide +kernel
theorem dX12_does_22 : decode cX12_does 22 = .ok (.iload_n 1, 1) := by decide +kernel
theorem dX12_does_23 : decode cX12_does 23 = .ok (.invokevirtual 391, 3) := by decide +kernel
theorem dX12_does_26 : decode cX12_does 26 = .ok (.istore_n 3, 1) := by decide +kernel
theorem dX12_does_27 : decode cX12_does 27 = .ok (.iload_n 3, 1) := by decide +kernel
theorem dX12_does_28 : decode cX12_does 28 = .ok (.ifCond .le 7, 3) := by decide +kernel
theorem dX12_does_31 : decode cX12_does 31 = .ok (.aload_n 0, 1) := by decide +kernel
theorem dX12_does_32 : decode cX12_does 32 = .ok (.invokevirtual 341, 3) := by decide +kernel
theorem dX12_does_35 : decode cX12_does 35 = .ok (.iload_n 3, 1) := by decide +kernel
theorem dX12_does_36 : decode cX12_does 36 = .ok (.ireturn, 1) := by decide +kernel
theorem dX12_draw_0 : decode cX12_draw 0 = .ok (.aload_n 0, 1) := by decide +kernel
theorem dX12_draw_1 : decode cX12_draw 1 = .ok (.ldc_w 400, 3) := by decide +kernel
theorem dX12_draw_4 : decode cX12_draw 4 = .ok (.aload_n 0, 1) := by decide +kernel
theorem dX12_draw_5 : decode cX12_draw 5 = .ok (.getfield 401, 3) := by decide +kernel
theorem dX12_draw_8 : decode cX12_draw 8 = .ok (.imul, 1) := by decide +kernel
theorem dX12_draw_9 : decode cX12_draw 9 = .ok (.sipush 12345, 3) := by decide +kernel
theorem dX12_draw_12 : decode cX12_draw 12 = .ok (.iadd, 1) := by decide +kernel
theorem dX12_draw_13 : decode cX12_draw 13 = .ok (.putfield 401, 3) := by decide +kernel
theorem dX12_draw_16 : decode cX12_draw 16 = .ok (.aload_n 0, 1) := by decide +kernel
theorem dX12_draw_17 : decode cX12_draw 17 = .ok (.getfield 401, 3) := by decide +kernel
theorem dX12_draw_20 : decode cX12_draw 20 = .ok (.bipush 16, 2) := by decide +kernel
theorem dX12_draw_22 : decode cX12_draw 22 = .ok (.iushr, 1) := by decide +kernel
theorem dX12_draw_23 : decode cX12_draw 23 = .ok (.iload_n 1, 1) := by decide +kernel
theorem dX12_draw_24 : decode cX12_draw 24 = .ok (.irem, 1) := by decide +kernel
theorem dX12_draw_25 : decode cX12_draw 25 = .ok (.ireturn, 1) := by decide +kernel
theorem dX12_goesDrawn_0 : decode cX12_goesDrawn 0 = .ok (.aload_n 0, 1) := by decide +kernel
theorem dX12_goesDrawn_1 : decode cX12_goesDrawn 1 = .ok (.iconst 5, 1) := by decide +kernel
theorem dX12_goesDrawn_2 : decode cX12_goesDrawn 2 = .ok (.invokevirtual 404, 3) := by decide +kernel
theorem dX12_goesDrawn_5 : decode cX12_goesDrawn 5 = .ok (.istore_n 1, 1) := by decide +kernel
theorem dX12_goesDrawn_6 : decode cX12_goesDrawn 6 = .ok (.iload_n 1, 1) := by decide +kernel
theorem dX12_goesDrawn_7 : decode cX12_goesDrawn 7 = .ok (.ifCond .ne 9, 3) := by decide +kernel
theorem dX12_goesDrawn_10 : decode cX12_goesDrawn 10 = .ok (.aload_n 0, 1) := by decide +kernel
theorem dX12_goesDrawn_11 : decode cX12_goesDrawn 11 = .ok (.invokevirtual 358, 3) := by decide +kernel
theorem dX12_goesDrawn_14 : decode cX12_goesDrawn 14 = .ok (.iconst 1, 1) := by decide +kernel
theorem dX12_goesDrawn_15 : decode cX12_goesDrawn 15 = .ok (.ireturn, 1) := by decide +kernel
theorem dX12_goesDrawn_16 : decode cX12_goesDrawn 16 = .ok (.aload_n 0, 1) := by decide +kernel
theorem dX12_goesDrawn_17 : decode cX12_goesDrawn 17 = .ok (.iconst 5, 1) := by decide +kernel
theorem dX12_goesDrawn_18 : decode cX12_goesDrawn 18 = .ok (.invokevirtual 404, 3) := by decide +kernel
theorem dX12_goesDrawn_21 : decode cX12_goesDrawn 21 = .ok (.istore_n 2, 1) := by decide +kernel
theorem dX12_goesDrawn_22 : decode cX12_goesDrawn 22 = .ok (.aload_n 0, 1) := by decide +kernel
theorem dX12_goesDrawn_23 : decode cX12_goesDrawn 23 = .ok (.iload_n 1, 1) := by decide +kernel
theorem dX12_goesDrawn_24 : decode cX12_goesDrawn 24 = .ok (.iconst 4, 1) := by decide +kernel
theorem dX12_goesDrawn_25 : decode cX12_goesDrawn 25 = .ok (.if_icmp .ne 8, 3) := by decide +kernel
theorem dX12_goesDrawn_28 : decode cX12_goesDrawn 28 = .ok (.bipush 10, 2) := by decide +kernel
theorem dX12_goesDrawn_30 : decode cX12_goesDrawn 30 = .ok (.goto 4, 3) := by decide +kernel
theorem dX12_goesDrawn_33 : decode cX12_goesDrawn 33 = .ok (.iconst 5, 1) := by decide +kernel
theorem dX12_goesDrawn_34 : decode cX12_goesDrawn 34 = .ok (.invokevirtual 404, 3) := by decide +kernel
theorem dX12_goesDrawn_37 : decode cX12_goesDrawn 37 = .ok (.istore_n 3, 1) := by decide +kernel
theorem dX12_goesDrawn_38 : decode cX12_goesDrawn 38 = .ok (.iload_n 1, 1) := by decide +kernel
theorem dX12_goesDrawn_39 : decode cX12_goesDrawn 39 = .ok (.iconst 3, 1) := by decide +kernel
theorem dX12_goesDrawn_40 : decode cX12_goesDrawn 40 = .ok (.if_icmp .ne 14, 3) := by decide +kernel
theorem dX12_goesDrawn_43 : decode cX12_goesDrawn 43 = .ok (.iconst 1, 1) := by decide +kernel
theorem dX12_goesDrawn_44 : decode cX12_goesDrawn 44 = .ok (.aload_n 0, 1) := by decide +kernel
theorem dX12_goesDrawn_45 : decode cX12_goesDrawn 45 = .ok (.bipush 9, 2) := by decide +kernel
theorem dX12_goesDrawn_47 : decode cX12_goesDrawn 47 = .ok (.invokevirtual 404, 3) := by decide +kernel
theorem dX12_goesDrawn_50 : decode cX12_goesDrawn 50 = .ok (.iadd, 1) := by decide +kernel
theorem dX12_goesDrawn_51 : decode cX12_goesDrawn 51 = .ok (.goto 4, 3) := by decide +kernel
theorem dX12_goesDrawn_54 : decode cX12_goesDrawn 54 = .ok (.iconst 0, 1) := by decide +kernel
theorem dX12_goesDrawn_55 : decode cX12_goesDrawn 55 = .ok (.istore 4, 2) := by decide +kernel
theorem dX12_goesDrawn_57 : decode cX12_goesDrawn 57 = .ok (.iload_n 1, 1) := by decide +kernel
theorem dX12_goesDrawn_58 : decode cX12_goesDrawn 58 = .ok (.iconst 4, 1) := by decide +kernel
theorem dX12_goesDrawn_59 : decode cX12_goesDrawn 59 = .ok (.if_icmp .ne 26, 3) := by decide +kernel
theorem dX12_goesDrawn_62 : decode cX12_goesDrawn 62 = .ok (.aload_n 0, 1) := by decide +kernel
theorem dX12_goesDrawn_63 : decode cX12_goesDrawn 63 = .ok (.iload_n 2, 1) := by decide +kernel
theorem dX12_goesDrawn_64 : decode cX12_goesDrawn 64 = .ok (.i2l, 1) := by decide +kernel
theorem dX12_goesDrawn_65 : decode cX12_goesDrawn 65 = .ok (.invokevirtual 244, 3) := by decide +kernel
theorem dX12_goesDrawn_68 : decode cX12_goesDrawn 68 = .ok (.ifCond .ne 5, 3) := by decide +kernel
theorem dX12_goesDrawn_71 : decode cX12_goesDrawn 71 = .ok (.iconst 0, 1) := by decide +kernel
theorem dX12_goesDrawn_72 : decode cX12_goesDrawn 72 = .ok (.ireturn, 1) := by decide +kernel
theorem dX12_goesDrawn_73 : decode cX12_goesDrawn 73 = .ok (.aload_n 0, 1) := by decide +kernel
theorem dX12_goesDrawn_74 : decode cX12_goesDrawn 74 = .ok (.getfield 13, 3) := by decide +kernel
theorem dX12_goesDrawn_77 : decode cX12_goesDrawn 77 = .ok (.bipush 87, 2) := by decide +kernel
theorem dX12_goesDrawn_79 : decode cX12_goesDrawn 79 = .ok (.iload_n 2, 1) := by decide +kernel
theorem dX12_goesDrawn_80 : decode cX12_goesDrawn 80 = .ok (.iadd, 1) := by decide +kernel
theorem dX12_goesDrawn_81 : decode cX12_goesDrawn 81 = .ok (.iload_n 3, 1) := by decide +kernel
theorem dX12_goesDrawn_82 : decode cX12_goesDrawn 82 = .ok (.iastore, 1) := by decide +kernel
theorem dX12_goesDrawn_83 : decode cX12_goesDrawn 83 = .ok (.iconst 1, 1) := by decide +kernel
theorem dX12_goesDrawn_84 : decode cX12_goesDrawn 84 = .ok (.ireturn, 1) := by decide +kernel
theorem dX12_goesDrawn_85 : decode cX12_goesDrawn 85 = .ok (.iload_n 1, 1) := by decide +kernel
theorem dX12_goesDrawn_86 : decode cX12_goesDrawn 86 = .ok (.iconst 3, 1) := by decide +kernel
theorem dX12_goesDrawn_87 : decode cX12_goesDrawn 87 = .ok (.if_icmp .ne 23, 3) := by decide +kernel
theorem dX12_goesDrawn_90 : decode cX12_goesDrawn 90 = .ok (.sipush 1000, 3) := by decide +kernel
theorem dX12_goesDrawn_93 : decode cX12_goesDrawn 93 = .ok (.sipush 1000, 3) := by decide +kernel
theorem dX12_goesDrawn_96 : decode cX12_goesDrawn 96 = .ok (.iload_n 2, 1) := by decide +kernel
theorem dX12_goesDrawn_97 : decode cX12_goesDrawn 97 = .ok (.imul, 1) := by decide +kernel
theorem dX12_goesDrawn_98 : decode cX12_goesDrawn 98 = .ok (.iadd, 1) := by decide +kernel
theorem dX12_goesDrawn_99 : decode cX12_goesDrawn 99 = .ok (.bipush 100, 2) := by decide +kernel
theorem dX12_goesDrawn_101 : decode cX12_goesDrawn 101 = .ok (.iload_n 3, 1) := by decide +kernel
theorem dX12_goesDrawn_102 : decode cX12_goesDrawn 102 = .ok (.imul, 1) := by decide +kernel
theorem dX12_goesDrawn_103 : decode cX12_goesDrawn 103 = .ok (.iadd, 1) := by decide +kernel
theorem dX12_goesDrawn_104 : decode cX12_goesDrawn 104 = .ok (.iload 4, 2) := by decide +kernel
theorem dX12_goesDrawn_106 : decode cX12_goesDrawn 106 = .ok (.iadd, 1) := by decide +kernel
theorem dX12_goesDrawn_107 : decode cX12_goesDrawn 107 = .ok (.goto 16, 3) := by decide +kernel
theorem dX12_goesDrawn_110 : decode cX12_goesDrawn 110 = .ok (.bipush 100, 2) := by decide +kernel
theorem dX12_goesDrawn_112 : decode cX12_goesDrawn 112 = .ok (.iload_n 1, 1) := by decide +kernel
theorem dX12_goesDrawn_113 : decode cX12_goesDrawn 113 = .ok (.iconst 1, 1) := by decide +kernel
theorem dX12_goesDrawn_114 : decode cX12_goesDrawn 114 = .ok (.isub, 1) := by decide +kernel
theorem dX12_goesDrawn_115 : decode cX12_goesDrawn 115 = .ok (.imul, 1) := by decide +kernel
theorem dX12_goesDrawn_116 : decode cX12_goesDrawn 116 = .ok (.bipush 10, 2) := by decide +kernel
theorem dX12_goesDrawn_118 : decode cX12_goesDrawn 118 = .ok (.iload_n 2, 1) := by decide +kernel
theorem dX12_goesDrawn_119 : decode cX12_goesDrawn 119 = .ok (.imul, 1) := by decide +kernel
theorem dX12_goesDrawn_120 : decode cX12_goesDrawn 120 = .ok (.iadd, 1) := by decide +kernel
theorem dX12_goesDrawn_121 : decode cX12_goesDrawn 121 = .ok (.iload_n 3, 1) := by decide +kernel
theorem dX12_goesDrawn_122 : decode cX12_goesDrawn 122 = .ok (.iadd, 1) := by decide +kernel
theorem dX12_goesDrawn_123 : decode cX12_goesDrawn 123 = .ok (.istore 5, 2) := by decide +kernel
theorem dX12_goesDrawn_125 : decode cX12_goesDrawn 125 = .ok (.aload_n 0, 1) := by decide +kernel
theorem dX12_goesDrawn_126 : decode cX12_goesDrawn 126 = .ok (.iload 5, 2) := by decide +kernel
theorem dX12_goesDrawn_128 : decode cX12_goesDrawn 128 = .ok (.i2l, 1) := by decide +kernel
theorem dX12_goesDrawn_129 : decode cX12_goesDrawn 129 = .ok (.invokevirtual 378, 3) := by decide +kernel
theorem dX12_goesDrawn_132 : decode cX12_goesDrawn 132 = .ok (.ifCond .eq 5, 3) := by decide +kernel
theorem dX12_goesDrawn_135 : decode cX12_goesDrawn 135 = .ok (.iconst 0, 1) := by decide +kernel
theorem dX12_goesDrawn_136 : decode cX12_goesDrawn 136 = .ok (.ireturn, 1) := by decide +kernel
theorem dX12_goesDrawn_137 : decode cX12_goesDrawn 137 = .ok (.aload_n 0, 1) := by decide +kernel
theorem dX12_goesDrawn_138 : decode cX12_goesDrawn 138 = .ok (.iload 5, 2) := by decide +kernel
theorem dX12_goesDrawn_140 : decode cX12_goesDrawn 140 = .ok (.invokevirtual 382, 3) := by decide +kernel
theorem dX12_goesDrawn_143 : decode cX12_goesDrawn 143 = .ok (.iconst 1, 1) := by decide +kernel
theorem dX12_goesDrawn_144 : decode cX12_goesDrawn 144 = .ok (.ireturn, 1) := by decide +kernel
theorem dX12_term_0 : decode cX12_term 0 = .ok (.aload_n 0, 1) := by decide +kernel
theorem dX12_term_1 : decode cX12_term 1 = .ok (.iconst 0, 1) := by decide +kernel
theorem dX12_term_2 : decode cX12_term 2 = .ok (.putfield 1, 3) := by decide +kernel
theorem dX12_term_5 : decode cX12_term 5 = .ok (.iload_n 2, 1) := by decide +kernel
theorem dX12_term_6 : decode cX12_term 6 = .ok (.i2l, 1) := by decide +kernel
theorem dX12_term_7 : decode cX12_term 7 = .ok (.lconst 1, 1) := by decide +kernel
theorem dX12_term_8 : decode cX12_term 8 = .ok (.ldc2_w 327, 3) := by decide +kernel
theorem dX12_term_11 : decode cX12_term 11 = .ok (.invokestatic 152, 3) := by decide +kernel
theorem dX12_term_14 : decode cX12_term 14 = .ok (.ifCond .ne 6, 3) := by decide +kernel
theorem dX12_term_17 : decode cX12_term 17 = .ok (.ldc 206, 2) := by decide +kernel
theorem dX12_term_19 : decode cX12_term 19 = .ok (.ireturn, 1) := by decide +kernel
theorem dX12_term_20 : decode cX12_term 20 = .ok (.aload_n 0, 1) := by decide +kernel
theorem dX12_term_21 : decode cX12_term 21 = .ok (.invokevirtual 332, 3) := by decide +kernel
theorem dX12_term_24 : decode cX12_term 24 = .ok (.aload_n 0, 1) := by decide +kernel
theorem dX12_term_25 : decode cX12_term 25 = .ok (.iload_n 1, 1) := by decide +kernel
theorem dX12_term_26 : decode cX12_term 26 = .ok (.putfield 401, 3) := by decide +kernel
theorem dX12_term_29 : decode cX12_term 29 = .ok (.iconst 0, 1) := by decide +kernel
theorem dX12_term_30 : decode cX12_term 30 = .ok (.istore_n 3, 1) := by decide +kernel
theorem dX12_term_31 : decode cX12_term 31 = .ok (.iconst 0, 1) := by decide +kernel
theorem dX12_term_32 : decode cX12_term 32 = .ok (.istore 4, 2) := by decide +kernel
theorem dX12_term_34 : decode cX12_term 34 = .ok (.iload 4, 2) := by decide +kernel
theorem dX12_term_36 : decode cX12_term 36 = .ok (.iload_n 2, 1) := by decide +kernel
theorem dX12_term_37 : decode cX12_term 37 = .ok (.if_icmp .ge 24, 3) := by decide +kernel
theorem dX12_term_40 : decode cX12_term 40 = .ok (.iload_n 3, 1) := by decide +kernel
theorem dX12_term_41 : decode cX12_term 41 = .ok (.aload_n 0, 1) := by decide +kernel
theorem dX12_term_42 : decode cX12_term 42 = .ok (.invokevirtual 407, 3) := by decide +kernel
theorem dX12_term_45 : decode cX12_term 45 = .ok (.ifCond .eq 7, 3) := by decide +kernel
theorem dX12_term_48 : decode cX12_term 48 = .ok (.iconst 1, 1) := by decide +kernel
theorem dX12_term_49 : decode cX12_term 49 = .ok (.goto 4, 3) := by decide +kernel
theorem dX12_term_52 : decode cX12_term 52 = .ok (.iconst 0, 1) := by decide +kernel
theorem dX12_term_53 : decode cX12_term 53 = .ok (.iadd, 1) := by decide +kernel
theorem dX12_term_54 : decode cX12_term 54 = .ok (.istore_n 3, 1) := by decide +kernel
theorem dX12_term_55 : decode cX12_term 55 = .ok (.iinc 4 1, 3) := by decide +kernel
theorem dX12_term_58 : decode cX12_term 58 = .ok (.goto (-24), 3) := by decide +kernel
theorem dX12_term_61 : decode cX12_term 61 = .ok (.iload_n 3, 1) := by decide +kernel
theorem dX12_term_62 : decode cX12_term 62 = .ok (.ifCond .le 7, 3) := by decide +kernel
theorem dX12_term_65 : decode cX12_term 65 = .ok (.aload_n 0, 1) := by decide +kernel
theorem dX12_term_66 : decode cX12_term 66 = .ok (.invokevirtual 341, 3) := by decide +kernel
theorem dX12_term_69 : decode cX12_term 69 = .ok (.iload_n 3, 1) := by decide +kernel
theorem dX12_term_70 : decode cX12_term 70 = .ok (.ireturn, 1) := by decide +kernel
theorem dX12_isTold_0 : decode cX12_isTold 0 = .ok (.iload_n 0, 1) := by decide +kernel
theorem dX12_isTold_1 : decode cX12_isTold 1 = .ok (.i2l, 1) := by decide +kernel
theorem dX12_isTold_2 : decode cX12_isTold 2 = .ok (.lconst 0, 1) := by decide +kernel
theorem dX12_isTold_3 : decode cX12_isTold 3 = .ok (.iload_n 1, 1) := by decide +kernel
theorem dX12_isTold_4 : decode cX12_isTold 4 = .ok (.i2l, 1) := by decide +kernel
theorem dX12_isTold_5 : decode cX12_isTold 5 = .ok (.invokestatic 152, 3) := by decide +kernel
theorem dX12_isTold_8 : decode cX12_isTold 8 = .ok (.ifCond .ne 17, 3) := by decide +kernel
theorem dX12_isTold_11 : decode cX12_isTold 11 = .ok (.iload_n 0, 1) := by decide +kernel
theorem dX12_isTold_12 : decode cX12_isTold 12 = .ok (.i2l, 1) := by decide +kernel
theorem dX12_isTold_13 : decode cX12_isTold 13 = .ok (.ldc2_w 361, 3) := by decide +kernel
theorem dX12_isTold_16 : decode cX12_isTold 16 = .ok (.ldc2_w 411, 3) := by decide +kernel
theorem dX12_isTold_19 : decode cX12_isTold 19 = .ok (.invokestatic 152, 3) := by decide +kernel
theorem dX12_isTold_22 : decode cX12_isTold 22 = .ok (.ifCond .eq 7, 3) := by decide +kernel
theorem dX12_isTold_25 : decode cX12_isTold 25 = .ok (.iconst 1, 1) := by decide +kernel
theorem dX12_isTold_26 : decode cX12_isTold 26 = .ok (.goto 4, 3) := by decide +kernel
theorem dX12_isTold_29 : decode cX12_isTold 29 = .ok (.iconst 0, 1) := by decide +kernel
theorem dX12_isTold_30 : decode cX12_isTold 30 = .ok (.ireturn, 1) := by decide +kernel
theorem dX12_areBoth_0 : decode cX12_areBoth 0 = .ok (.aload_n 0, 1) := by decide +kernel
theorem dX12_areBoth_1 : decode cX12_areBoth 1 = .ok (.iload_n 1, 1) := by decide +kernel
theorem dX12_areBoth_2 : decode cX12_areBoth 2 = .ok (.i2l, 1) := by decide +kernel
theorem dX12_areBoth_3 : decode cX12_areBoth 3 = .ok (.invokevirtual 244, 3) := by decide +kernel
theorem dX12_areBoth_6 : decode cX12_areBoth 6 = .ok (.ifCond .eq 16, 3) := by decide +kernel
theorem dX12_areBoth_9 : decode cX12_areBoth 9 = .ok (.aload_n 0, 1) := by decide +kernel
theorem dX12_areBoth_10 : decode cX12_areBoth 10 = .ok (.iload_n 2, 1) := by decide +kernel
theorem dX12_areBoth_11 : decode cX12_areBoth 11 = .ok (.i2l, 1) := by decide +kernel
theorem dX12_areBoth_12 : decode cX12_areBoth 12 = .ok (.invokevirtual 248, 3) := by decide +kernel
theorem dX12_areBoth_15 : decode cX12_areBoth 15 = .ok (.ifCond .eq 7, 3) := by decide +kernel
theorem dX12_areBoth_18 : decode cX12_areBoth 18 = .ok (.iconst 1, 1) := by decide +kernel
theorem dX12_areBoth_19 : decode cX12_areBoth 19 = .ok (.goto 4, 3) := by decide +kernel
theorem dX12_areBoth_22 : decode cX12_areBoth 22 = .ok (.iconst 0, 1) := by decide +kernel
theorem dX12_areBoth_23 : decode cX12_areBoth 23 = .ok (.ireturn, 1) := by decide +kernel
theorem dX12_comes_0 : decode cX12_comes 0 = .ok (.aload_n 0, 1) := by decide +kernel
theorem dX12_comes_1 : decode cX12_comes 1 = .ok (.iconst 0, 1) := by decide +kernel
theorem dX12_comes_2 : decode cX12_comes 2 = .ok (.putfield 1, 3) := by decide +kernel
theorem dX12_comes_5 : decode cX12_comes 5 = .ok (.aload_n 0, 1) := by decide +kernel
theorem dX12_comes_6 : decode cX12_comes 6 = .ok (.iload_n 1, 1) := by decide +kernel
theorem dX12_comes_7 : decode cX12_comes 7 = .ok (.iload_n 2, 1) := by decide +kernel
theorem dX12_comes_8 : decode cX12_comes 8 = .ok (.invokevirtual 413, 3) := by decide +kernel
theorem dX12_comes_11 : decode cX12_comes 11 = .ok (.ifCond .eq 11, 3) := by decide +kernel
theorem dX12_comes_14 : decode cX12_comes 14 = .ok (.iload_n 3, 1) := by decide +kernel
theorem dX12_comes_15 : decode cX12_comes 15 = .ok (.iconst 2, 1) := by decide +kernel
theorem dX12_comes_16 : decode cX12_comes 16 = .ok (.invokestatic 416, 3) := by decide +kernel
theorem dX12_comes_19 : decode cX12_comes 19 = .ok (.ifCond .ne 6, 3) := by decide +kernel
theorem dX12_comes_22 : decode cX12_comes 22 = .ok (.ldc 247, 2) := by decide +kernel
theorem dX12_comes_24 : decode cX12_comes 24 = .ok (.ireturn, 1) := by decide +kernel
theorem dX12_comes_25 : decode cX12_comes 25 = .ok (.aload_n 0, 1) := by decide +kernel
theorem dX12_comes_26 : decode cX12_comes 26 = .ok (.iload_n 1, 1) := by decide +kernel
theorem dX12_comes_27 : decode cX12_comes 27 = .ok (.iload_n 2, 1) := by decide +kernel
theorem dX12_comes_28 : decode cX12_comes 28 = .ok (.invokevirtual 335, 3) := by decide +kernel
theorem dX12_comes_31 : decode cX12_comes 31 = .ok (.iload_n 3, 1) := by decide +kernel
theorem dX12_comes_32 : decode cX12_comes 32 = .ok (.ifCond .ne 10, 3) := by decide +kernel
theorem dX12_comes_35 : decode cX12_comes 35 = .ok (.aload_n 0, 1) := by decide +kernel
theorem dX12_comes_36 : decode cX12_comes 36 = .ok (.getfield 290, 3) := by decide +kernel
theorem dX12_comes_39 : decode cX12_comes 39 = .ok (.goto 36, 3) := by decide +kernel
theorem dX12_comes_42 : decode cX12_comes 42 = .ok (.iload_n 3, 1) := by decide +kernel
theorem dX12_comes_43 : decode cX12_comes 43 = .ok (.iconst 1, 1) := by decide +kernel
theorem dX12_comes_44 : decode cX12_comes 44 = .ok (.if_icmp .ne 10, 3) := by decide +kernel
theorem dX12_comes_47 : decode cX12_comes 47 = .ok (.aload_n 0, 1) := by decide +kernel
theorem dX12_comes_48 : decode cX12_comes 48 = .ok (.getfield 293, 3) := by decide +kernel
theorem dX12_comes_51 : decode cX12_comes 51 = .ok (.goto 24, 3) := by decide +kernel
theorem dX12_comes_54 : decode cX12_comes 54 = .ok (.iload_n 3, 1) := by decide +kernel
theorem dX12_comes_55 : decode cX12_comes 55 = .ok (.iconst 2, 1) := by decide +kernel
theorem dX12_comes_56 : decode cX12_comes 56 = .ok (.if_icmp .ne 10, 3) := by decide +kernel
theorem dX12_comes_59 : decode cX12_comes 59 = .ok (.aload_n 0, 1) := by decide +kernel
theorem dX12_comes_60 : decode cX12_comes 60 = .ok (.getfield 309, 3) := by decide +kernel
theorem dX12_comes_63 : decode cX12_comes 63 = .ok (.goto 12, 3) := by decide +kernel
theorem dX12_comes_66 : decode cX12_comes 66 = .ok (.aload_n 0, 1) := by decide +kernel
theorem dX12_comes_67 : decode cX12_comes 67 = .ok (.iload_n 2, 1) := by decide +kernel
theorem dX12_comes_68 : decode cX12_comes 68 = .ok (.iload_n 3, 1) := by decide +kernel
theorem dX12_comes_69 : decode cX12_comes 69 = .ok (.bipush 10, 2) := by decide +kernel
theorem dX12_comes_71 : decode cX12_comes 71 = .ok (.isub, 1) := by decide +kernel
theorem dX12_comes_72 : decode cX12_comes 72 = .ok (.invokevirtual 419, 3) := by decide +kernel
theorem dX12_comes_75 : decode cX12_comes 75 = .ok (.ireturn, 1) := by decide +kernel
theorem dX12_tellsRow_0 : decode cX12_tellsRow 0 = .ok (.iload_n 1, 1) := by decide +kernel
theorem dX12_tellsRow_1 : decode cX12_tellsRow 1 = .ok (.ifCond .ne 7, 3) := by decide +kernel
theorem dX12_tellsRow_4 : decode cX12_tellsRow 4 = .ok (.ldc_w 422, 3) := by decide +kernel
theorem dX12_tellsRow_7 : decode cX12_tellsRow 7 = .ok (.ireturn, 1) := by decide +kernel
theorem dX12_tellsRow_8 : decode cX12_tellsRow 8 = .ok (.iload_n 3, 1) := by decide +kernel
theorem dX12_tellsRow_9 : decode cX12_tellsRow 9 = .ok (.ifCond .ne 10, 3) := by decide +kernel
theorem dX12_tellsRow_12 : decode cX12_tellsRow 12 = .ok (.aload_n 0, 1) := by decide +kernel
theorem dX12_tellsRow_13 : decode cX12_tellsRow 13 = .ok (.getfield 290, 3) := by decide +kernel
theorem dX12_tellsRow_16 : decode cX12_tellsRow 16 = .ok (.goto 24, 3) := by decide +kernel
theorem dX12_tellsRow_19 : decode cX12_tellsRow 19 = .ok (.iload_n 3, 1) := by decide +kernel
theorem dX12_tellsRow_20 : decode cX12_tellsRow 20 = .ok (.iconst 1, 1) := by decide +kernel
theorem dX12_tellsRow_21 : decode cX12_tellsRow 21 = .ok (.if_icmp .ne 10, 3) := by decide +kernel
theorem dX12_tellsRow_24 : decode cX12_tellsRow 24 = .ok (.aload_n 0, 1) := by decide +kernel
theorem dX12_tellsRow_25 : decode cX12_tellsRow 25 = .ok (.getfield 293, 3) := by decide +kernel
theorem dX12_tellsRow_28 : decode cX12_tellsRow 28 = .ok (.goto 12, 3) := by decide +kernel
theorem dX12_tellsRow_31 : decode cX12_tellsRow 31 = .ok (.aload_n 0, 1) := by decide +kernel
theorem dX12_tellsRow_32 : decode cX12_tellsRow 32 = .ok (.iload_n 2, 1) := by decide +kernel
theorem dX12_tellsRow_33 : decode cX12_tellsRow 33 = .ok (.iload_n 3, 1) := by decide +kernel
theorem dX12_tellsRow_34 : decode cX12_tellsRow 34 = .ok (.bipush 10, 2) := by decide +kernel
theorem dX12_tellsRow_36 : decode cX12_tellsRow 36 = .ok (.isub, 1) := by decide +kernel
theorem dX12_tellsRow_37 : decode cX12_tellsRow 37 = .ok (.invokevirtual 419, 3) := by decide +kernel
theorem dX12_tellsRow_40 : decode cX12_tellsRow 40 = .ok (.ireturn, 1) := by decide +kernel
theorem dX12_best_0 : decode cX12_best 0 = .ok (.aload_n 0, 1) := by decide +kernel
theorem dX12_best_1 : decode cX12_best 1 = .ok (.iconst 0, 1) := by decide +kernel
theorem dX12_best_2 : decode cX12_best 2 = .ok (.putfield 1, 3) := by decide +kernel
theorem dX12_best_5 : decode cX12_best 5 = .ok (.aload_n 0, 1) := by decide +kernel
theorem dX12_best_6 : decode cX12_best 6 = .ok (.iload_n 1, 1) := by decide +kernel
theorem dX12_best_7 : decode cX12_best 7 = .ok (.iload_n 2, 1) := by decide +kernel
theorem dX12_best_8 : decode cX12_best 8 = .ok (.invokevirtual 413, 3) := by decide +kernel
theorem dX12_best_11 : decode cX12_best 11 = .ok (.ifCond .eq 12, 3) := by decide +kernel
theorem dX12_best_14 : decode cX12_best 14 = .ok (.iload 4, 2) := by decide +kernel
theorem dX12_best_16 : decode cX12_best 16 = .ok (.iconst 1, 1) := by decide +kernel
theorem dX12_best_17 : decode cX12_best 17 = .ok (.invokestatic 416, 3) := by decide +kernel
theorem dX12_best_20 : decode cX12_best 20 = .ok (.ifCond .ne 6, 3) := by decide +kernel
theorem dX12_best_23 : decode cX12_best 23 = .ok (.ldc 247, 2) := by decide +kernel
theorem dX12_best_25 : decode cX12_best 25 = .ok (.ireturn, 1) := by decide +kernel
theorem dX12_best_26 : decode cX12_best 26 = .ok (.iload_n 3, 1) := by decide +kernel
theorem dX12_best_27 : decode cX12_best 27 = .ok (.i2l, 1) := by decide +kernel
theorem dX12_best_28 : decode cX12_best 28 = .ok (.invokestatic 240, 3) := by decide +kernel
theorem dX12_best_31 : decode cX12_best 31 = .ok (.ifCond .ne 6, 3) := by decide +kernel
theorem dX12_best_34 : decode cX12_best 34 = .ok (.ldc 206, 2) := by decide +kernel
theorem dX12_best_36 : decode cX12_best 36 = .ok (.ireturn, 1) := by decide +kernel
theorem dX12_best_37 : decode cX12_best 37 = .ok (.aload_n 0, 1) := by decide +kernel
theorem dX12_best_38 : decode cX12_best 38 = .ok (.aload_n 0, 1) := by decide +kernel
theorem dX12_best_39 : decode cX12_best 39 = .ok (.iload_n 1, 1) := by decide +kernel
theorem dX12_best_40 : decode cX12_best 40 = .ok (.iload_n 2, 1) := by decide +kernel
theorem dX12_best_41 : decode cX12_best 41 = .ok (.iload_n 3, 1) := by decide +kernel
theorem dX12_best_42 : decode cX12_best 42 = .ok (.invokevirtual 323, 3) := by decide +kernel
theorem dX12_best_45 : decode cX12_best 45 = .ok (.iload_n 2, 1) := by decide +kernel
theorem dX12_best_46 : decode cX12_best 46 = .ok (.iload 4, 2) := by decide +kernel
theorem dX12_best_48 : decode cX12_best 48 = .ok (.invokevirtual 423, 3) := by decide +kernel
theorem dX12_best_51 : decode cX12_best 51 = .ok (.ireturn, 1) := by decide +kernel
theorem dX12_mark_0 : decode cX12_mark 0 = .ok (.iload_n 0, 1) := by decide +kernel
theorem dX12_mark_1 : decode cX12_mark 1 = .ok (.iconst 2, 1) := by decide +kernel
theorem dX12_mark_2 : decode cX12_mark 2 = .ok (.iadd, 1) := by decide +kernel
theorem dX12_mark_3 : decode cX12_mark 3 = .ok (.bipush 41, 2) := by decide +kernel
theorem dX12_mark_5 : decode cX12_mark 5 = .ok (.imul, 1) := by decide +kernel
theorem dX12_mark_6 : decode cX12_mark 6 = .ok (.iload_n 1, 1) := by decide +kernel
theorem dX12_mark_7 : decode cX12_mark 7 = .ok (.iadd, 1) := by decide +kernel
theorem dX12_mark_8 : decode cX12_mark 8 = .ok (.bipush 20, 2) := by decide +kernel
theorem dX12_mark_10 : decode cX12_mark 10 = .ok (.iadd, 1) := by decide +kernel
theorem dX12_mark_11 : decode cX12_mark 11 = .ok (.ireturn, 1) := by decide +kernel
theorem dX12_beginsMany_0 : decode cX12_beginsMany 0 = .ok (.iconst 0, 1) := by decide +kernel
theorem dX12_beginsMany_1 : decode cX12_beginsMany 1 = .ok (.istore_n 2, 1) := by decide +kernel
theorem dX12_beginsMany_2 : decode cX12_beginsMany 2 = .ok (.iload_n 2, 1) := by decide +kernel
theorem dX12_beginsMany_3 : decode cX12_beginsMany 3 = .ok (.sipush 205, 3) := by decide +kernel
theorem dX12_beginsMany_6 : decode cX12_beginsMany 6 = .ok (.if_icmp .ge 16, 3) := by decide +kernel
theorem dX12_beginsMany_9 : decode cX12_beginsMany 9 = .ok (.aload_n 0, 1) := by decide +kernel
theorem dX12_beginsMany_10 : decode cX12_beginsMany 10 = .ok (.getfield 51, 3) := by decide +kernel
theorem dX12_beginsMany_13 : decode cX12_beginsMany 13 = .ok (.iload_n 2, 1) := by decide +kernel
theorem dX12_beginsMany_14 : decode cX12_beginsMany 14 = .ok (.lconst 0, 1) := by decide +kernel
theorem dX12_beginsMany_15 : decode cX12_beginsMany 15 = .ok (.lastore, 1) := by decide +kernel
theorem dX12_beginsMany_16 : decode cX12_beginsMany 16 = .ok (.iinc 2 1, 3) := by decide +kernel
theorem dX12_beginsMany_19 : decode cX12_beginsMany 19 = .ok (.goto (-17), 3) := by decide +kernel
theorem dX12_beginsMany_22 : decode cX12_beginsMany 22 = .ok (.aload_n 0, 1) := by decide +kernel
theorem dX12_beginsMany_23 : decode cX12_beginsMany 23 = .ok (.getfield 51, 3) := by decide +kernel
theorem dX12_beginsMany_26 : decode cX12_beginsMany 26 = .ok (.iconst 0, 1) := by decide +kernel
theorem dX12_beginsMany_27 : decode cX12_beginsMany 27 = .ok (.iload_n 1, 1) := by decide +kernel
theorem dX12_beginsMany_28 : decode cX12_beginsMany 28 = .ok (.invokestatic 427, 3) := by decide +kernel
theorem dX12_beginsMany_31 : decode cX12_beginsMany 31 = .ok (.lconst 1, 1) := by decide +kernel
theorem dX12_beginsMany_32 : decode cX12_beginsMany 32 = .ok (.lastore, 1) := by decide +kernel
theorem dX12_beginsMany_33 : decode cX12_beginsMany 33 = .ok (.return_, 1) := by decide +kernel
theorem dX12_isThen_0 : decode cX12_isThen 0 = .ok (.iconst 0, 1) := by decide +kernel
theorem dX12_isThen_1 : decode cX12_isThen 1 = .ok (.istore_n 1, 1) := by decide +kernel
theorem dX12_isThen_2 : decode cX12_isThen 2 = .ok (.iload_n 1, 1) := by decide +kernel
theorem dX12_isThen_3 : decode cX12_isThen 3 = .ok (.sipush 205, 3) := by decide +kernel
theorem dX12_isThen_6 : decode cX12_isThen 6 = .ok (.if_icmp .ge 28, 3) := by decide +kernel
theorem dX12_isThen_9 : decode cX12_isThen 9 = .ok (.aload_n 0, 1) := by decide +kernel
theorem dX12_isThen_10 : decode cX12_isThen 10 = .ok (.getfield 51, 3) := by decide +kernel
theorem dX12_isThen_13 : decode cX12_isThen 13 = .ok (.iload_n 1, 1) := by decide +kernel
theorem dX12_isThen_14 : decode cX12_isThen 14 = .ok (.aload_n 0, 1) := by decide +kernel
theorem dX12_isThen_15 : decode cX12_isThen 15 = .ok (.getfield 55, 3) := by decide +kernel
theorem dX12_isThen_18 : decode cX12_isThen 18 = .ok (.iload_n 1, 1) := by decide +kernel
theorem dX12_isThen_19 : decode cX12_isThen 19 = .ok (.laload, 1) := by decide +kernel
theorem dX12_isThen_20 : decode cX12_isThen 20 = .ok (.lastore, 1) := by decide +kernel
theorem dX12_isThen_21 : decode cX12_isThen 21 = .ok (.aload_n 0, 1) := by decide +kernel
theorem dX12_isThen_22 : decode cX12_isThen 22 = .ok (.getfield 55, 3) := by decide +kernel
theorem dX12_isThen_25 : decode cX12_isThen 25 = .ok (.iload_n 1, 1) := by decide +kernel
theorem dX12_isThen_26 : decode cX12_isThen 26 = .ok (.lconst 0, 1) := by decide +kernel
theorem dX12_isThen_27 : decode cX12_isThen 27 = .ok (.lastore, 1) := by decide +kernel
theorem dX12_isThen_28 : decode cX12_isThen 28 = .ok (.iinc 1 1, 3) := by decide +kernel
theorem dX12_isThen_31 : decode cX12_isThen 31 = .ok (.goto (-29), 3) := by decide +kernel
theorem dX12_isThen_34 : decode cX12_isThen 34 = .ok (.return_, 1) := by decide +kernel
theorem dX12_laysMany_0 : decode cX12_laysMany 0 = .ok (.aload_n 0, 1) := by decide +kernel
theorem dX12_laysMany_1 : decode cX12_laysMany 1 = .ok (.iload_n 1, 1) := by decide +kernel
theorem dX12_laysMany_2 : decode cX12_laysMany 2 = .ok (.iload_n 2, 1) := by decide +kernel
theorem dX12_laysMany_3 : decode cX12_laysMany 3 = .ok (.invokevirtual 299, 3) := by decide +kernel
theorem dX12_laysMany_6 : decode cX12_laysMany 6 = .ok (.aload_n 0, 1) := by decide +kernel
theorem dX12_laysMany_7 : decode cX12_laysMany 7 = .ok (.aload_n 0, 1) := by decide +kernel
theorem dX12_laysMany_8 : decode cX12_laysMany 8 = .ok (.getfield 13, 3) := by decide +kernel
theorem dX12_laysMany_11 : decode cX12_laysMany 11 = .ok (.bipush 77, 2) := by decide +kernel
theorem dX12_laysMany_13 : decode cX12_laysMany 13 = .ok (.iload_n 1, 1) := by decide +kernel
theorem dX12_laysMany_14 : decode cX12_laysMany 14 = .ok (.iadd, 1) := by decide +kernel
theorem dX12_laysMany_15 : decode cX12_laysMany 15 = .ok (.iaload, 1) := by decide +kernel
theorem dX12_laysMany_16 : decode cX12_laysMany 16 = .ok (.invokevirtual 430, 3) := by decide +kernel
theorem dX12_laysMany_19 : decode cX12_laysMany 19 = .ok (.iconst 0, 1) := by decide +kernel
theorem dX12_laysMany_20 : decode cX12_laysMany 20 = .ok (.istore_n 3, 1) := by decide +kernel
theorem dX12_laysMany_21 : decode cX12_laysMany 21 = .ok (.iload_n 3, 1) := by decide +kernel
theorem dX12_laysMany_22 : decode cX12_laysMany 22 = .ok (.sipush 205, 3) := by decide +kernel
theorem dX12_laysMany_25 : decode cX12_laysMany 25 = .ok (.if_icmp .ge 16, 3) := by decide +kernel
theorem dX12_laysMany_28 : decode cX12_laysMany 28 = .ok (.aload_n 0, 1) := by decide +kernel
theorem dX12_laysMany_29 : decode cX12_laysMany 29 = .ok (.getfield 55, 3) := by decide +kernel
theorem dX12_laysMany_32 : decode cX12_laysMany 32 = .ok (.iload_n 3, 1) := by decide +kernel
theorem dX12_laysMany_33 : decode cX12_laysMany 33 = .ok (.lconst 0, 1) := by decide +kernel
theorem dX12_laysMany_34 : decode cX12_laysMany 34 = .ok (.lastore, 1) := by decide +kernel
theorem dX12_laysMany_35 : decode cX12_laysMany 35 = .ok (.iinc 3 1, 3) := by decide +kernel
theorem dX12_laysMany_38 : decode cX12_laysMany 38 = .ok (.goto (-17), 3) := by decide +kernel
theorem dX12_laysMany_41 : decode cX12_laysMany 41 = .ok (.iconst 0, 1) := by decide +kernel
theorem dX12_laysMany_42 : decode cX12_laysMany 42 = .ok (.istore_n 3, 1) := by decide +kernel
theorem dX12_laysMany_43 : decode cX12_laysMany 43 = .ok (.iload_n 3, 1) := by decide +kernel
theorem dX12_laysMany_44 : decode cX12_laysMany 44 = .ok (.aload_n 0, 1) := by decide +kernel
theorem dX12_laysMany_45 : decode cX12_laysMany 45 = .ok (.getfield 13, 3) := by decide +kernel
theorem dX12_laysMany_48 : decode cX12_laysMany 48 = .ok (.bipush 10, 2) := by decide +kernel
theorem dX12_laysMany_50 : decode cX12_laysMany 50 = .ok (.iload_n 2, 1) := by decide +kernel
theorem dX12_laysMany_51 : decode cX12_laysMany 51 = .ok (.iadd, 1) := by decide +kernel
theorem dX12_laysMany_52 : decode cX12_laysMany 52 = .ok (.iaload, 1) := by decide +kernel
theorem dX12_laysMany_53 : decode cX12_laysMany 53 = .ok (.if_icmp .ge 136, 3) := by decide +kernel
theorem dX12_laysMany_56 : decode cX12_laysMany 56 = .ok (.bipush (-2), 2) := by decide +kernel
theorem dX12_laysMany_58 : decode cX12_laysMany 58 = .ok (.istore 4, 2) := by decide +kernel
theorem dX12_laysMany_60 : decode cX12_laysMany 60 = .ok (.iload 4, 2) := by decide +kernel
theorem dX12_laysMany_62 : decode cX12_laysMany 62 = .ok (.iconst 2, 1) := by decide +kernel
theorem dX12_laysMany_63 : decode cX12_laysMany 63 = .ok (.if_icmp .gt 116, 3) := by decide +kernel
theorem dX12_laysMany_66 : decode cX12_laysMany 66 = .ok (.bipush (-20), 2) := by decide +kernel
theorem dX12_laysMany_68 : decode cX12_laysMany 68 = .ok (.istore 5, 2) := by decide +kernel
theorem dX12_laysMany_70 : decode cX12_laysMany 70 = .ok (.iload 5, 2) := by decide +kernel
theorem dX12_laysMany_72 : decode cX12_laysMany 72 = .ok (.bipush 20, 2) := by decide +kernel
theorem dX12_laysMany_74 : decode cX12_laysMany 74 = .ok (.if_icmp .gt 99, 3) := by decide +kernel
theorem dX12_laysMany_77 : decode cX12_laysMany 77 = .ok (.bipush (-2), 2) := by decide +kernel
theorem dX12_laysMany_79 : decode cX12_laysMany 79 = .ok (.istore 6, 2) := by decide +kernel
theorem dX12_laysMany_81 : decode cX12_laysMany 81 = .ok (.iload 6, 2) := by decide +kernel
theorem dX12_laysMany_83 : decode cX12_laysMany 83 = .ok (.iconst 2, 1) := by decide +kernel
theorem dX12_laysMany_84 : decode cX12_laysMany 84 = .ok (.if_icmp .gt 83, 3) := by decide +kernel
theorem dX12_laysMany_87 : decode cX12_laysMany 87 = .ok (.aload_n 0, 1) := by decide +kernel
theorem dX12_laysMany_88 : decode cX12_laysMany 88 = .ok (.getfield 51, 3) := by decide +kernel
theorem dX12_laysMany_91 : decode cX12_laysMany 91 = .ok (.iload 4, 2) := by decide +kernel
theorem dX12_laysMany_93 : decode cX12_laysMany 93 = .ok (.iload 5, 2) := by decide +kernel
theorem dX12_laysMany_95 : decode cX12_laysMany 95 = .ok (.invokestatic 427, 3) := by decide +kernel
theorem dX12_laysMany_98 : decode cX12_laysMany 98 = .ok (.laload, 1) := by decide +kernel
theorem dX12_laysMany_99 : decode cX12_laysMany 99 = .ok (.lconst 0, 1) := by decide +kernel
theorem dX12_laysMany_100 : decode cX12_laysMany 100 = .ok (.lcmp, 1) := by decide +kernel
theorem dX12_laysMany_101 : decode cX12_laysMany 101 = .ok (.ifCond .le 66, 3) := by decide +kernel
theorem dX12_laysMany_104 : decode cX12_laysMany 104 = .ok (.aload_n 0, 1) := by decide +kernel
theorem dX12_laysMany_105 : decode cX12_laysMany 105 = .ok (.iload_n 3, 1) := by decide +kernel
theorem dX12_laysMany_106 : decode cX12_laysMany 106 = .ok (.iload 6, 2) := by decide +kernel
theorem dX12_laysMany_108 : decode cX12_laysMany 108 = .ok (.invokevirtual 277, 3) := by decide +kernel
theorem dX12_laysMany_111 : decode cX12_laysMany 111 = .ok (.ifCond .eq 50, 3) := by decide +kernel
theorem dX12_laysMany_114 : decode cX12_laysMany 114 = .ok (.aload_n 0, 1) := by decide +kernel
theorem dX12_laysMany_115 : decode cX12_laysMany 115 = .ok (.iload_n 3, 1) := by decide +kernel
theorem dX12_laysMany_116 : decode cX12_laysMany 116 = .ok (.iload 4, 2) := by decide +kernel
theorem dX12_laysMany_118 : decode cX12_laysMany 118 = .ok (.iload 5, 2) := by decide +kernel
theorem dX12_laysMany_120 : decode cX12_laysMany 120 = .ok (.iload 6, 2) := by decide +kernel
theorem dX12_laysMany_122 : decode cX12_laysMany 122 = .ok (.invokevirtual 280, 3) := by decide +kernel
theorem dX12_laysMany_125 : decode cX12_laysMany 125 = .ok (.ldc_w 273, 3) := by decide +kernel
theorem dX12_laysMany_128 : decode cX12_laysMany 128 = .ok (.if_icmp .eq 33, 3) := by decide +kernel
theorem dX12_laysMany_131 : decode cX12_laysMany 131 = .ok (.aload_n 0, 1) := by decide +kernel
theorem dX12_laysMany_132 : decode cX12_laysMany 132 = .ok (.getfield 55, 3) := by decide +kernel
theorem dX12_laysMany_135 : decode cX12_laysMany 135 = .ok (.iload 6, 2) := by decide +kernel
theorem dX12_laysMany_137 : decode cX12_laysMany 137 = .ok (.iload 5, 2) := by decide +kernel
theorem dX12_laysMany_139 : decode cX12_laysMany 139 = .ok (.iload 6, 2) := by decide +kernel
theorem dX12_laysMany_141 : decode cX12_laysMany 141 = .ok (.isub, 1) := by decide +kernel
theorem dX12_laysMany_142 : decode cX12_laysMany 142 = .ok (.invokestatic 427, 3) := by decide +kernel
theorem dX12_laysMany_145 : decode cX12_laysMany 145 = .ok (.dup2, 1) := by decide +kernel
theorem dX12_laysMany_146 : decode cX12_laysMany 146 = .ok (.laload, 1) := by decide +kernel
theorem dX12_laysMany_147 : decode cX12_laysMany 147 = .ok (.aload_n 0, 1) := by decide +kernel
theorem dX12_laysMany_148 : decode cX12_laysMany 148 = .ok (.getfield 51, 3) := by decide +kernel
theorem dX12_laysMany_151 : decode cX12_laysMany 151 = .ok (.iload 4, 2) := by decide +kernel
theorem dX12_laysMany_153 : decode cX12_laysMany 153 = .ok (.iload 5, 2) := by decide +kernel
theorem dX12_laysMany_155 : decode cX12_laysMany 155 = .ok (.invokestatic 427, 3) := by decide +kernel
theorem dX12_laysMany_158 : decode cX12_laysMany 158 = .ok (.laload, 1) := by decide +kernel
theorem dX12_laysMany_159 : decode cX12_laysMany 159 = .ok (.ladd, 1) := by decide +kernel
theorem dX12_laysMany_160 : decode cX12_laysMany 160 = .ok (.lastore, 1) := by decide +kernel
theorem dX12_laysMany_161 : decode cX12_laysMany 161 = .ok (.iinc 6 1, 3) := by decide +kernel
theorem dX12_laysMany_164 : decode cX12_laysMany 164 = .ok (.goto (-83), 3) := by decide +kernel
theorem dX12_laysMany_167 : decode cX12_laysMany 167 = .ok (.iinc 5 1, 3) := by decide +kernel
theorem dX12_laysMany_170 : decode cX12_laysMany 170 = .ok (.goto (-100), 3) := by decide +kernel
theorem dX12_laysMany_173 : decode cX12_laysMany 173 = .ok (.iinc 4 1, 3) := by decide +kernel
theorem dX12_laysMany_176 : decode cX12_laysMany 176 = .ok (.goto (-116), 3) := by decide +kernel
theorem dX12_laysMany_179 : decode cX12_laysMany 179 = .ok (.aload_n 0, 1) := by decide +kernel
theorem dX12_laysMany_180 : decode cX12_laysMany 180 = .ok (.invokevirtual 433, 3) := by decide +kernel
theorem dX12_laysMany_183 : decode cX12_laysMany 183 = .ok (.iinc 3 1, 3) := by decide +kernel
theorem dX12_laysMany_186 : decode cX12_laysMany 186 = .ok (.goto (-143), 3) := by decide +kernel
theorem dX12_laysMany_189 : decode cX12_laysMany 189 = .ok (.return_, 1) := by decide +kernel
theorem dX12_endsWith_0 : decode cX12_endsWith 0 = .ok (.lconst 0, 1) := by decide +kernel
theorem dX12_endsWith_1 : decode cX12_endsWith 1 = .ok (.lstore_n 2, 1) := by decide +kernel
theorem dX12_endsWith_2 : decode cX12_endsWith 2 = .ok (.bipush (-2), 2) := by decide +kernel
theorem dX12_endsWith_4 : decode cX12_endsWith 4 = .ok (.istore 4, 2) := by decide +kernel
theorem dX12_endsWith_6 : decode cX12_endsWith 6 = .ok (.iload 4, 2) := by decide +kernel
theorem dX12_endsWith_8 : decode cX12_endsWith 8 = .ok (.iconst 2, 1) := by decide +kernel
theorem dX12_endsWith_9 : decode cX12_endsWith 9 = .ok (.if_icmp .gt 23, 3) := by decide +kernel
theorem dX12_endsWith_12 : decode cX12_endsWith 12 = .ok (.lload_n 2, 1) := by decide +kernel
theorem dX12_endsWith_13 : decode cX12_endsWith 13 = .ok (.aload_n 0, 1) := by decide +kernel
theorem dX12_endsWith_14 : decode cX12_endsWith 14 = .ok (.getfield 51, 3) := by decide +kernel
theorem dX12_endsWith_17 : decode cX12_endsWith 17 = .ok (.iload 4, 2) := by decide +kernel
theorem dX12_endsWith_19 : decode cX12_endsWith 19 = .ok (.iload_n 1, 1) := by decide +kernel
theorem dX12_endsWith_20 : decode cX12_endsWith 20 = .ok (.invokestatic 427, 3) := by decide +kernel
theorem dX12_endsWith_23 : decode cX12_endsWith 23 = .ok (.laload, 1) := by decide +kernel
theorem dX12_endsWith_24 : decode cX12_endsWith 24 = .ok (.ladd, 1) := by decide +kernel
theorem dX12_endsWith_25 : decode cX12_endsWith 25 = .ok (.lstore_n 2, 1) := by decide +kernel
theorem dX12_endsWith_26 : decode cX12_endsWith 26 = .ok (.iinc 4 1, 3) := by decide +kernel
theorem dX12_endsWith_29 : decode cX12_endsWith 29 = .ok (.goto (-23), 3) := by decide +kernel
theorem dX12_endsWith_32 : decode cX12_endsWith 32 = .ok (.lload_n 2, 1) := by decide +kernel
theorem dX12_endsWith_33 : decode cX12_endsWith 33 = .ok (.lreturn, 1) := by decide +kernel
theorem dX12_rows_0 : decode cX12_rows 0 = .ok (.aload_n 0, 1) := by decide +kernel
theorem dX12_rows_1 : decode cX12_rows 1 = .ok (.iconst 0, 1) := by decide +kernel
theorem dX12_rows_2 : decode cX12_rows 2 = .ok (.putfield 1, 3) := by decide +kernel
theorem dX12_rows_5 : decode cX12_rows 5 = .ok (.aload_n 0, 1) := by decide +kernel
theorem dX12_rows_6 : decode cX12_rows 6 = .ok (.iload_n 1, 1) := by decide +kernel
theorem dX12_rows_7 : decode cX12_rows 7 = .ok (.iload_n 2, 1) := by decide +kernel
theorem dX12_rows_8 : decode cX12_rows 8 = .ok (.invokevirtual 413, 3) := by decide +kernel
theorem dX12_rows_11 : decode cX12_rows 11 = .ok (.ifCond .ne 7, 3) := by decide +kernel
theorem dX12_rows_14 : decode cX12_rows 14 = .ok (.ldc2_w 436, 3) := by decide +kernel
theorem dX12_rows_17 : decode cX12_rows 17 = .ok (.lreturn, 1) := by decide +kernel
theorem dX12_rows_18 : decode cX12_rows 18 = .ok (.iload_n 3, 1) := by decide +kernel
theorem dX12_rows_19 : decode cX12_rows 19 = .ok (.i2l, 1) := by decide +kernel
theorem dX12_rows_20 : decode cX12_rows 20 = .ok (.invokestatic 240, 3) := by decide +kernel
theorem dX12_rows_23 : decode cX12_rows 23 = .ok (.ifCond .ne 7, 3) := by decide +kernel
theorem dX12_rows_26 : decode cX12_rows 26 = .ok (.ldc2_w 438, 3) := by decide +kernel
theorem dX12_rows_29 : decode cX12_rows 29 = .ok (.lreturn, 1) := by decide +kernel
theorem dX12_rows_30 : decode cX12_rows 30 = .ok (.aload_n 0, 1) := by decide +kernel
theorem dX12_rows_31 : decode cX12_rows 31 = .ok (.invokevirtual 296, 3) := by decide +kernel
theorem dX12_rows_34 : decode cX12_rows 34 = .ok (.aload_n 0, 1) := by decide +kernel
theorem dX12_rows_35 : decode cX12_rows 35 = .ok (.iload_n 1, 1) := by decide +kernel
theorem dX12_rows_36 : decode cX12_rows 36 = .ok (.iload_n 2, 1) := by decide +kernel
theorem dX12_rows_37 : decode cX12_rows 37 = .ok (.invokevirtual 440, 3) := by decide +kernel
theorem dX12_rows_40 : decode cX12_rows 40 = .ok (.aload_n 0, 1) := by decide +kernel
theorem dX12_rows_41 : decode cX12_rows 41 = .ok (.iload_n 3, 1) := by decide +kernel
theorem dX12_rows_42 : decode cX12_rows 42 = .ok (.invokevirtual 443, 3) := by decide +kernel
theorem dX12_rows_45 : decode cX12_rows 45 = .ok (.lreturn, 1) := by decide +kernel
theorem dX12_thriftiest_0 : decode cX12_thriftiest 0 = .ok (.aload_n 0, 1) := by decide +kernel
theorem dX12_thriftiest_1 : decode cX12_thriftiest 1 = .ok (.iconst 0, 1) := by decide +kernel
theorem dX12_thriftiest_2 : decode cX12_thriftiest 2 = .ok (.putfield 1, 3) := by decide +kernel
theorem dX12_thriftiest_5 : decode cX12_thriftiest 5 = .ok (.aload_n 0, 1) := by decide +kernel
theorem dX12_thriftiest_6 : decode cX12_thriftiest 6 = .ok (.iload_n 1, 1) := by decide +kernel
theorem dX12_thriftiest_7 : decode cX12_thriftiest 7 = .ok (.iload_n 2, 1) := by decide +kernel
theorem dX12_thriftiest_8 : decode cX12_thriftiest 8 = .ok (.invokevirtual 413, 3) := by decide +kernel
theorem dX12_thriftiest_11 : decode cX12_thriftiest 11 = .ok (.ifCond .ne 6, 3) := by decide +kernel
theorem dX12_thriftiest_14 : decode cX12_thriftiest 14 = .ok (.ldc 247, 2) := by decide +kernel
theorem dX12_thriftiest_16 : decode cX12_thriftiest 16 = .ok (.ireturn, 1) := by decide +kernel
theorem dX12_thriftiest_17 : decode cX12_thriftiest 17 = .ok (.aload_n 0, 1) := by decide +kernel
theorem dX12_thriftiest_18 : decode cX12_thriftiest 18 = .ok (.invokevirtual 296, 3) := by decide +kernel
theorem dX12_thriftiest_21 : decode cX12_thriftiest 21 = .ok (.aload_n 0, 1) := by decide +kernel
theorem dX12_thriftiest_22 : decode cX12_thriftiest 22 = .ok (.iload_n 1, 1) := by decide +kernel
theorem dX12_thriftiest_23 : decode cX12_thriftiest 23 = .ok (.iload_n 2, 1) := by decide +kernel
theorem dX12_thriftiest_24 : decode cX12_thriftiest 24 = .ok (.invokevirtual 440, 3) := by decide +kernel
theorem dX12_thriftiest_27 : decode cX12_thriftiest 27 = .ok (.bipush 20, 2) := by decide +kernel
theorem dX12_thriftiest_29 : decode cX12_thriftiest 29 = .ok (.istore_n 3, 1) := by decide +kernel
theorem dX12_thriftiest_30 : decode cX12_thriftiest 30 = .ok (.iload_n 3, 1) := by decide +kernel
theorem dX12_thriftiest_31 : decode cX12_thriftiest 31 = .ok (.bipush (-20), 2) := by decide +kernel
theorem dX12_thriftiest_33 : decode cX12_thriftiest 33 = .ok (.if_icmp .lt 21, 3) := by decide +kernel
theorem dX12_thriftiest_36 : decode cX12_thriftiest 36 = .ok (.aload_n 0, 1) := by decide +kernel
theorem dX12_thriftiest_37 : decode cX12_thriftiest 37 = .ok (.iload_n 3, 1) := by decide +kernel
theorem dX12_thriftiest_38 : decode cX12_thriftiest 38 = .ok (.invokevirtual 443, 3) := by decide +kernel
theorem dX12_thriftiest_41 : decode cX12_thriftiest 41 = .ok (.lconst 0, 1) := by decide +kernel
theorem dX12_thriftiest_42 : decode cX12_thriftiest 42 = .ok (.lcmp, 1) := by decide +kernel
theorem dX12_thriftiest_43 : decode cX12_thriftiest 43 = .ok (.ifCond .le 5, 3) := by decide +kernel
theorem dX12_thriftiest_46 : decode cX12_thriftiest 46 = .ok (.iload_n 3, 1) := by decide +kernel
theorem dX12_thriftiest_47 : decode cX12_thriftiest 47 = .ok (.ireturn, 1) := by decide +kernel
theorem dX12_thriftiest_48 : decode cX12_thriftiest 48 = .ok (.iinc 3 (-1), 3) := by decide +kernel
theorem dX12_thriftiest_51 : decode cX12_thriftiest 51 = .ok (.goto (-21), 3) := by decide +kernel
theorem dX12_thriftiest_54 : decode cX12_thriftiest 54 = .ok (.ldc_w 422, 3) := by decide +kernel
theorem dX12_thriftiest_57 : decode cX12_thriftiest 57 = .ok (.ireturn, 1) := by decide +kernel
theorem dX12_least_0 : decode cX12_least 0 = .ok (.aload_n 0, 1) := by decide +kernel
theorem dX12_least_1 : decode cX12_least 1 = .ok (.iconst 0, 1) := by decide +kernel
theorem dX12_least_2 : decode cX12_least 2 = .ok (.putfield 1, 3) := by decide +kernel
theorem dX12_least_5 : decode cX12_least 5 = .ok (.aload_n 0, 1) := by decide +kernel
theorem dX12_least_6 : decode cX12_least 6 = .ok (.iload_n 1, 1) := by decide +kernel
theorem dX12_least_7 : decode cX12_least 7 = .ok (.iload_n 2, 1) := by decide +kernel
theorem dX12_least_8 : decode cX12_least 8 = .ok (.invokevirtual 413, 3) := by decide +kernel
theorem dX12_least_11 : decode cX12_least 11 = .ok (.ifCond .ne 6, 3) := by decide +kernel
theorem dX12_least_14 : decode cX12_least 14 = .ok (.ldc 247, 2) := by decide +kernel
theorem dX12_least_16 : decode cX12_least 16 = .ok (.ireturn, 1) := by decide +kernel
theorem dX12_least_17 : decode cX12_least 17 = .ok (.iload_n 3, 1) := by decide +kernel
theorem dX12_least_18 : decode cX12_least 18 = .ok (.i2l, 1) := by decide +kernel
theorem dX12_least_19 : decode cX12_least 19 = .ok (.invokestatic 240, 3) := by decide +kernel
theorem dX12_least_22 : decode cX12_least 22 = .ok (.ifCond .ne 6, 3) := by decide +kernel
theorem dX12_least_25 : decode cX12_least 25 = .ok (.ldc 206, 2) := by decide +kernel
theorem dX12_least_27 : decode cX12_least 27 = .ok (.ireturn, 1) := by decide +kernel
theorem dX12_least_28 : decode cX12_least 28 = .ok (.aload_n 0, 1) := by decide +kernel
theorem dX12_least_29 : decode cX12_least 29 = .ok (.iload_n 1, 1) := by decide +kernel
theorem dX12_least_30 : decode cX12_least 30 = .ok (.iload_n 2, 1) := by decide +kernel
theorem dX12_least_31 : decode cX12_least 31 = .ok (.iload_n 3, 1) := by decide +kernel
theorem dX12_least_32 : decode cX12_least 32 = .ok (.invokevirtual 323, 3) := by decide +kernel
theorem dX12_least_35 : decode cX12_least 35 = .ok (.pop, 1) := by decide +kernel
theorem dX12_least_36 : decode cX12_least 36 = .ok (.bipush (-20), 2) := by decide +kernel
theorem dX12_least_38 : decode cX12_least 38 = .ok (.istore 5, 2) := by decide +kernel
theorem dX12_least_40 : decode cX12_least 40 = .ok (.iload 5, 2) := by decide +kernel
theorem dX12_least_42 : decode cX12_least 42 = .ok (.bipush 20, 2) := by decide +kernel
theorem dX12_least_44 : decode cX12_least 44 = .ok (.if_icmp .gt 47, 3) := by decide +kernel
theorem dX12_least_47 : decode cX12_least 47 = .ok (.aload_n 0, 1) := by decide +kernel
theorem dX12_least_48 : decode cX12_least 48 = .ok (.getfield 39, 3) := by decide +kernel
theorem dX12_least_51 : decode cX12_least 51 = .ok (.iconst 0, 1) := by decide +kernel
theorem dX12_least_52 : decode cX12_least 52 = .ok (.iconst 0, 1) := by decide +kernel
theorem dX12_least_53 : decode cX12_least 53 = .ok (.iload 5, 2) := by decide +kernel
theorem dX12_least_55 : decode cX12_least 55 = .ok (.invokestatic 262, 3) := by decide +kernel
theorem dX12_least_58 : decode cX12_least 58 = .ok (.iaload, 1) := by decide +kernel
theorem dX12_least_59 : decode cX12_least 59 = .ok (.ldc_w 273, 3) := by decide +kernel
theorem dX12_least_62 : decode cX12_least 62 = .ok (.if_icmp .eq 23, 3) := by decide +kernel
theorem dX12_least_65 : decode cX12_least 65 = .ok (.aload_n 0, 1) := by decide +kernel
theorem dX12_least_66 : decode cX12_least 66 = .ok (.getfield 39, 3) := by decide +kernel
theorem dX12_least_69 : decode cX12_least 69 = .ok (.iconst 0, 1) := by decide +kernel
theorem dX12_least_70 : decode cX12_least 70 = .ok (.iconst 0, 1) := by decide +kernel
theorem dX12_least_71 : decode cX12_least 71 = .ok (.iload 5, 2) := by decide +kernel
theorem dX12_least_73 : decode cX12_least 73 = .ok (.invokestatic 262, 3) := by decide +kernel
theorem dX12_least_76 : decode cX12_least 76 = .ok (.iaload, 1) := by decide +kernel
theorem dX12_least_77 : decode cX12_least 77 = .ok (.iload 4, 2) := by decide +kernel
theorem dX12_least_79 : decode cX12_least 79 = .ok (.if_icmp .lt 6, 3) := by decide +kernel
theorem dX12_least_82 : decode cX12_least 82 = .ok (.iload 5, 2) := by decide +kernel
theorem dX12_least_84 : decode cX12_least 84 = .ok (.ireturn, 1) := by decide +kernel
theorem dX12_least_85 : decode cX12_least 85 = .ok (.iinc 5 1, 3) := by decide +kernel
theorem dX12_least_88 : decode cX12_least 88 = .ok (.goto (-48), 3) := by decide +kernel
theorem dX12_least_91 : decode cX12_least 91 = .ok (.ldc_w 422, 3) := by decide +kernel
theorem dX12_least_94 : decode cX12_least 94 = .ok (.ireturn, 1) := by decide +kernel
theorem dX12_squarest_0 : decode cX12_squarest 0 = .ok (.aload_n 0, 1) := by decide +kernel
theorem dX12_squarest_1 : decode cX12_squarest 1 = .ok (.iconst 0, 1) := by decide +kernel
theorem dX12_squarest_2 : decode cX12_squarest 2 = .ok (.putfield 1, 3) := by decide +kernel
theorem dX12_squarest_5 : decode cX12_squarest 5 = .ok (.aload_n 0, 1) := by decide +kernel
theorem dX12_squarest_6 : decode cX12_squarest 6 = .ok (.iload_n 1, 1) := by decide +kernel
theorem dX12_squarest_7 : decode cX12_squarest 7 = .ok (.iload_n 2, 1) := by decide +kernel
theorem dX12_squarest_8 : decode cX12_squarest 8 = .ok (.invokevirtual 413, 3) := by decide +kernel
theorem dX12_squarest_11 : decode cX12_squarest 11 = .ok (.ifCond .ne 6, 3) := by decide +kernel
theorem dX12_squarest_14 : decode cX12_squarest 14 = .ok (.ldc 247, 2) := by decide +kernel
theorem dX12_squarest_16 : decode cX12_squarest 16 = .ok (.ireturn, 1) := by decide +kernel
theorem dX12_squarest_17 : decode cX12_squarest 17 = .ok (.ldc_w 422, 3) := by decide +kernel
theorem dX12_squarest_20 : decode cX12_squarest 20 = .ok (.istore_n 3, 1) := by decide +kernel
theorem dX12_squarest_21 : decode cX12_squarest 21 = .ok (.ldc_w 273, 3) := by decide +kernel
theorem dX12_squarest_24 : decode cX12_squarest 24 = .ok (.istore 4, 2) := by decide +kernel
theorem dX12_squarest_26 : decode cX12_squarest 26 = .ok (.aload_n 0, 1) := by decide +kernel
theorem dX12_squarest_27 : decode cX12_squarest 27 = .ok (.invokevirtual 296, 3) := by decide +kernel
theorem dX12_squarest_30 : decode cX12_squarest 30 = .ok (.aload_n 0, 1) := by decide +kernel
theorem dX12_squarest_31 : decode cX12_squarest 31 = .ok (.iload_n 1, 1) := by decide +kernel
theorem dX12_squarest_32 : decode cX12_squarest 32 = .ok (.iload_n 2, 1) := by decide +kernel
theorem dX12_squarest_33 : decode cX12_squarest 33 = .ok (.invokevirtual 299, 3) := by decide +kernel
theorem dX12_squarest_36 : decode cX12_squarest 36 = .ok (.bipush (-20), 2) := by decide +kernel
theorem dX12_squarest_38 : decode cX12_squarest 38 = .ok (.istore 5, 2) := by decide +kernel
theorem dX12_squarest_40 : decode cX12_squarest 40 = .ok (.iload 5, 2) := by decide +kernel
theorem dX12_squarest_42 : decode cX12_squarest 42 = .ok (.bipush 20, 2) := by decide +kernel
theorem dX12_squarest_44 : decode cX12_squarest 44 = .ok (.if_icmp .gt 80, 3) := by decide +kernel
theorem dX12_squarest_47 : decode cX12_squarest 47 = .ok (.aload_n 0, 1) := by decide +kernel
theorem dX12_squarest_48 : decode cX12_squarest 48 = .ok (.aload_n 0, 1) := by decide +kernel
theorem dX12_squarest_49 : decode cX12_squarest 49 = .ok (.getfield 13, 3) := by decide +kernel
theorem dX12_squarest_52 : decode cX12_squarest 52 = .ok (.bipush 10, 2) := by decide +kernel
theorem dX12_squarest_54 : decode cX12_squarest 54 = .ok (.iload_n 2, 1) := by decide +kernel
theorem dX12_squarest_55 : decode cX12_squarest 55 = .ok (.iadd, 1) := by decide +kernel
theorem dX12_squarest_56 : decode cX12_squarest 56 = .ok (.iaload, 1) := by decide +kernel
theorem dX12_squarest_57 : decode cX12_squarest 57 = .ok (.iload 5, 2) := by decide +kernel
theorem dX12_squarest_59 : decode cX12_squarest 59 = .ok (.invokevirtual 303, 3) := by decide +kernel
theorem dX12_squarest_62 : decode cX12_squarest 62 = .ok (.aload_n 0, 1) := by decide +kernel
theorem dX12_squarest_63 : decode cX12_squarest 63 = .ok (.aload_n 0, 1) := by decide +kernel
theorem dX12_squarest_64 : decode cX12_squarest 64 = .ok (.getfield 13, 3) := by decide +kernel
theorem dX12_squarest_67 : decode cX12_squarest 67 = .ok (.bipush 10, 2) := by decide +kernel
theorem dX12_squarest_69 : decode cX12_squarest 69 = .ok (.iload_n 2, 1) := by decide +kernel
theorem dX12_squarest_70 : decode cX12_squarest 70 = .ok (.iadd, 1) := by decide +kernel
theorem dX12_squarest_71 : decode cX12_squarest 71 = .ok (.iaload, 1) := by decide +kernel
theorem dX12_squarest_72 : decode cX12_squarest 72 = .ok (.aload_n 0, 1) := by decide +kernel
theorem dX12_squarest_73 : decode cX12_squarest 73 = .ok (.getfield 13, 3) := by decide +kernel
theorem dX12_squarest_76 : decode cX12_squarest 76 = .ok (.bipush 77, 2) := by decide +kernel
theorem dX12_squarest_78 : decode cX12_squarest 78 = .ok (.iload_n 1, 1) := by decide +kernel
theorem dX12_squarest_79 : decode cX12_squarest 79 = .ok (.iadd, 1) := by decide +kernel
theorem dX12_squarest_80 : decode cX12_squarest 80 = .ok (.iaload, 1) := by decide +kernel
theorem dX12_squarest_81 : decode cX12_squarest 81 = .ok (.invokevirtual 306, 3) := by decide +kernel
theorem dX12_squarest_84 : decode cX12_squarest 84 = .ok (.ifCond .eq 34, 3) := by decide +kernel
theorem dX12_squarest_87 : decode cX12_squarest 87 = .ok (.aload_n 0, 1) := by decide +kernel
theorem dX12_squarest_88 : decode cX12_squarest 88 = .ok (.getfield 290, 3) := by decide +kernel
theorem dX12_squarest_91 : decode cX12_squarest 91 = .ok (.iconst 3, 1) := by decide +kernel
theorem dX12_squarest_92 : decode cX12_squarest 92 = .ok (.iload 5, 2) := by decide +kernel
theorem dX12_squarest_94 : decode cX12_squarest 94 = .ok (.imul, 1) := by decide +kernel
theorem dX12_squarest_95 : decode cX12_squarest 95 = .ok (.iadd, 1) := by decide +kernel
theorem dX12_squarest_96 : decode cX12_squarest 96 = .ok (.iload 4, 2) := by decide +kernel
theorem dX12_squarest_98 : decode cX12_squarest 98 = .ok (.if_icmp .gt 6, 3) := by decide +kernel
theorem dX12_squarest_101 : decode cX12_squarest 101 = .ok (.goto 17, 3) := by decide +kernel
theorem dX12_squarest_104 : decode cX12_squarest 104 = .ok (.iload 5, 2) := by decide +kernel
theorem dX12_squarest_106 : decode cX12_squarest 106 = .ok (.istore_n 3, 1) := by decide +kernel
theorem dX12_squarest_107 : decode cX12_squarest 107 = .ok (.aload_n 0, 1) := by decide +kernel
theorem dX12_squarest_108 : decode cX12_squarest 108 = .ok (.getfield 290, 3) := by decide +kernel
theorem dX12_squarest_111 : decode cX12_squarest 111 = .ok (.iconst 3, 1) := by decide +kernel
theorem dX12_squarest_112 : decode cX12_squarest 112 = .ok (.iload 5, 2) := by decide +kernel
theorem dX12_squarest_114 : decode cX12_squarest 114 = .ok (.imul, 1) := by decide +kernel
theorem dX12_squarest_115 : decode cX12_squarest 115 = .ok (.iadd, 1) := by decide +kernel
theorem dX12_squarest_116 : decode cX12_squarest 116 = .ok (.istore 4, 2) := by decide +kernel
theorem dX12_squarest_118 : decode cX12_squarest 118 = .ok (.iinc 5 1, 3) := by decide +kernel
theorem dX12_squarest_121 : decode cX12_squarest 121 = .ok (.goto (-81), 3) := by decide +kernel
theorem dX12_squarest_124 : decode cX12_squarest 124 = .ok (.iload_n 3, 1) := by decide +kernel
theorem dX12_squarest_125 : decode cX12_squarest 125 = .ok (.ireturn, 1) := by decide +kernel
theorem dX12_throughBy_0 : decode cX12_throughBy 0 = .ok (.aload_n 0, 1) := by decide +kernel
theorem dX12_throughBy_1 : decode cX12_throughBy 1 = .ok (.getfield 58, 3) := by decide +kernel
theorem dX12_throughBy_4 : decode cX12_throughBy 4 = .ok (.bipush 41, 2) := by decide +kernel
theorem dX12_throughBy_6 : decode cX12_throughBy 6 = .ok (.iload_n 1, 1) := by decide +kernel
theorem dX12_throughBy_7 : decode cX12_throughBy 7 = .ok (.imul, 1) := by decide +kernel
theorem dX12_throughBy_8 : decode cX12_throughBy 8 = .ok (.iload_n 2, 1) := by decide +kernel
theorem dX12_throughBy_9 : decode cX12_throughBy 9 = .ok (.iadd, 1) := by decide +kernel
theorem dX12_throughBy_10 : decode cX12_throughBy 10 = .ok (.bipush 41, 2) := by decide +kernel
theorem dX12_throughBy_12 : decode cX12_throughBy 12 = .ok (.imul, 1) := by decide +kernel
theorem dX12_throughBy_13 : decode cX12_throughBy 13 = .ok (.iload_n 3, 1) := by decide +kernel
theorem dX12_throughBy_14 : decode cX12_throughBy 14 = .ok (.iadd, 1) := by decide +kernel
theorem dX12_throughBy_15 : decode cX12_throughBy 15 = .ok (.iaload, 1) := by decide +kernel
theorem dX12_throughBy_16 : decode cX12_throughBy 16 = .ok (.ireturn, 1) := by decide +kernel
theorem dX12_laysThrough_0 : decode cX12_laysThrough 0 = .ok (.aload_n 0, 1) := by decide +kernel
theorem dX12_laysThrough_1 : decode cX12_laysThrough 1 = .ok (.invokevirtual 296, 3) := by decide +kernel
theorem dX12_laysThrough_4 : decode cX12_laysThrough 4 = .ok (.iconst 0, 1) := by decide +kernel
theorem dX12_laysThrough_5 : decode cX12_laysThrough 5 = .ok (.istore_n 2, 1) := by decide +kernel
theorem dX12_laysThrough_6 : decode cX12_laysThrough 6 = .ok (.iload_n 2, 1) := by decide +kernel
theorem dX12_laysThrough_7 : decode cX12_laysThrough 7 = .ok (.aload_n 0, 1) := by decide +kernel
theorem dX12_laysThrough_8 : decode cX12_laysThrough 8 = .ok (.getfield 13, 3) := by decide +kernel
theorem dX12_laysThrough_11 : decode cX12_laysThrough 11 = .ok (.iconst 1, 1) := by decide +kernel
theorem dX12_laysThrough_12 : decode cX12_laysThrough 12 = .ok (.iaload, 1) := by decide +kernel
theorem dX12_laysThrough_13 : decode cX12_laysThrough 13 = .ok (.if_icmp .ge 94, 3) := by decide +kernel
theorem dX12_laysThrough_16 : decode cX12_laysThrough 16 = .ok (.aload_n 0, 1) := by decide +kernel
theorem dX12_laysThrough_17 : decode cX12_laysThrough 17 = .ok (.iload_n 1, 1) := by decide +kernel
theorem dX12_laysThrough_18 : decode cX12_laysThrough 18 = .ok (.iload_n 2, 1) := by decide +kernel
theorem dX12_laysThrough_19 : decode cX12_laysThrough 19 = .ok (.invokevirtual 299, 3) := by decide +kernel
theorem dX12_laysThrough_22 : decode cX12_laysThrough 22 = .ok (.iconst 0, 1) := by decide +kernel
theorem dX12_laysThrough_23 : decode cX12_laysThrough 23 = .ok (.istore_n 3, 1) := by decide +kernel
theorem dX12_laysThrough_24 : decode cX12_laysThrough 24 = .ok (.iload_n 3, 1) := by decide +kernel
theorem dX12_laysThrough_25 : decode cX12_laysThrough 25 = .ok (.bipush 41, 2) := by decide +kernel
theorem dX12_laysThrough_27 : decode cX12_laysThrough 27 = .ok (.if_icmp .ge 74, 3) := by decide +kernel
theorem dX12_laysThrough_30 : decode cX12_laysThrough 30 = .ok (.aload_n 0, 1) := by decide +kernel
theorem dX12_laysThrough_31 : decode cX12_laysThrough 31 = .ok (.aload_n 0, 1) := by decide +kernel
theorem dX12_laysThrough_32 : decode cX12_laysThrough 32 = .ok (.getfield 13, 3) := by decide +kernel
theorem dX12_laysThrough_35 : decode cX12_laysThrough 35 = .ok (.bipush 10, 2) := by decide +kernel
theorem dX12_laysThrough_37 : decode cX12_laysThrough 37 = .ok (.iload_n 2, 1) := by decide +kernel
theorem dX12_laysThrough_38 : decode cX12_laysThrough 38 = .ok (.iadd, 1) := by decide +kernel
theorem dX12_laysThrough_39 : decode cX12_laysThrough 39 = .ok (.iaload, 1) := by decide +kernel
theorem dX12_laysThrough_40 : decode cX12_laysThrough 40 = .ok (.iload_n 3, 1) := by decide +kernel
theorem dX12_laysThrough_41 : decode cX12_laysThrough 41 = .ok (.bipush 20, 2) := by decide +kernel
theorem dX12_laysThrough_43 : decode cX12_laysThrough 43 = .ok (.isub, 1) := by decide +kernel
theorem dX12_laysThrough_44 : decode cX12_laysThrough 44 = .ok (.invokevirtual 447, 3) := by decide +kernel
theorem dX12_laysThrough_47 : decode cX12_laysThrough 47 = .ok (.iconst 0, 1) := by decide +kernel
theorem dX12_laysThrough_48 : decode cX12_laysThrough 48 = .ok (.istore 4, 2) := by decide +kernel
theorem dX12_laysThrough_50 : decode cX12_laysThrough 50 = .ok (.iload 4, 2) := by decide +kernel
theorem dX12_laysThrough_52 : decode cX12_laysThrough 52 = .ok (.bipush 41, 2) := by decide +kernel
theorem dX12_laysThrough_54 : decode cX12_laysThrough 54 = .ok (.if_icmp .ge 41, 3) := by decide +kernel
theorem dX12_laysThrough_57 : decode cX12_laysThrough 57 = .ok (.aload_n 0, 1) := by decide +kernel
theorem dX12_laysThrough_58 : decode cX12_laysThrough 58 = .ok (.getfield 58, 3) := by decide +kernel
theorem dX12_laysThrough_61 : decode cX12_laysThrough 61 = .ok (.bipush 41, 2) := by decide +kernel
theorem dX12_laysThrough_63 : decode cX12_laysThrough 63 = .ok (.iload_n 2, 1) := by decide +kernel
theorem dX12_laysThrough_64 : decode cX12_laysThrough 64 = .ok (.imul, 1) := by decide +kernel
theorem dX12_laysThrough_65 : decode cX12_laysThrough 65 = .ok (.iload 4, 2) := by decide +kernel
theorem dX12_laysThrough_67 : decode cX12_laysThrough 67 = .ok (.iadd, 1) := by decide +kernel
theorem dX12_laysThrough_68 : decode cX12_laysThrough 68 = .ok (.bipush 41, 2) := by decide +kernel
theorem dX12_laysThrough_70 : decode cX12_laysThrough 70 = .ok (.imul, 1) := by decide +kernel
theorem dX12_laysThrough_71 : decode cX12_laysThrough 71 = .ok (.iload_n 3, 1) := by decide +kernel
theorem dX12_laysThrough_72 : decode cX12_laysThrough 72 = .ok (.iadd, 1) := by decide +kernel
theorem dX12_laysThrough_73 : decode cX12_laysThrough 73 = .ok (.aload_n 0, 1) := by decide +kernel
theorem dX12_laysThrough_74 : decode cX12_laysThrough 74 = .ok (.getfield 39, 3) := by decide +kernel
theorem dX12_laysThrough_77 : decode cX12_laysThrough 77 = .ok (.iconst 0, 1) := by decide +kernel
theorem dX12_laysThrough_78 : decode cX12_laysThrough 78 = .ok (.iconst 0, 1) := by decide +kernel
theorem dX12_laysThrough_79 : decode cX12_laysThrough 79 = .ok (.iload 4, 2) := by decide +kernel
theorem dX12_laysThrough_81 : decode cX12_laysThrough 81 = .ok (.bipush 20, 2) := by decide +kernel
theorem dX12_laysThrough_83 : decode cX12_laysThrough 83 = .ok (.isub, 1) := by decide +kernel
theorem dX12_laysThrough_84 : decode cX12_laysThrough 84 = .ok (.invokestatic 262, 3) := by decide +kernel
theorem dX12_laysThrough_87 : decode cX12_laysThrough 87 = .ok (.iaload, 1) := by decide +kernel
theorem dX12_laysThrough_88 : decode cX12_laysThrough 88 = .ok (.iastore, 1) := by decide +kernel
theorem dX12_laysThrough_89 : decode cX12_laysThrough 89 = .ok (.iinc 4 1, 3) := by decide +kernel
theorem dX12_laysThrough_92 : decode cX12_laysThrough 92 = .ok (.goto (-42), 3) := by decide +kernel
theorem dX12_laysThrough_95 : decode cX12_laysThrough 95 = .ok (.iinc 3 1, 3) := by decide +kernel
theorem dX12_laysThrough_98 : decode cX12_laysThrough 98 = .ok (.goto (-74), 3) := by decide +kernel
theorem dX12_laysThrough_101 : decode cX12_laysThrough 101 = .ok (.iinc 2 1, 3) := by decide +kernel
theorem dX12_laysThrough_104 : decode cX12_laysThrough 104 = .ok (.goto (-98), 3) := by decide +kernel
theorem dX12_laysThrough_107 : decode cX12_laysThrough 107 = .ok (.return_, 1) := by decide +kernel
theorem dX12_laysEnd_0 : decode cX12_laysEnd 0 = .ok (.bipush (-2), 2) := by decide +kernel
theorem dX12_laysEnd_2 : decode cX12_laysEnd 2 = .ok (.istore_n 3, 1) := by decide +kernel
theorem dX12_laysEnd_3 : decode cX12_laysEnd 3 = .ok (.iload_n 3, 1) := by decide +kernel
theorem dX12_laysEnd_4 : decode cX12_laysEnd 4 = .ok (.iconst 2, 1) := by decide +kernel
theorem dX12_laysEnd_5 : decode cX12_laysEnd 5 = .ok (.if_icmp .gt 51, 3) := by decide +kernel
theorem dX12_laysEnd_8 : decode cX12_laysEnd 8 = .ok (.bipush (-20), 2) := by decide +kernel
theorem dX12_laysEnd_10 : decode cX12_laysEnd 10 = .ok (.istore 4, 2) := by decide +kernel
theorem dX12_laysEnd_12 : decode cX12_laysEnd 12 = .ok (.iload 4, 2) := by decide +kernel
theorem dX12_laysEnd_14 : decode cX12_laysEnd 14 = .ok (.bipush 20, 2) := by decide +kernel
theorem dX12_laysEnd_16 : decode cX12_laysEnd 16 = .ok (.if_icmp .gt 34, 3) := by decide +kernel
theorem dX12_laysEnd_19 : decode cX12_laysEnd 19 = .ok (.aload_n 0, 1) := by decide +kernel
theorem dX12_laysEnd_20 : decode cX12_laysEnd 20 = .ok (.getfield 39, 3) := by decide +kernel
theorem dX12_laysEnd_23 : decode cX12_laysEnd 23 = .ok (.iload_n 1, 1) := by decide +kernel
theorem dX12_laysEnd_24 : decode cX12_laysEnd 24 = .ok (.iload_n 3, 1) := by decide +kernel
theorem dX12_laysEnd_25 : decode cX12_laysEnd 25 = .ok (.iload 4, 2) := by decide +kernel
theorem dX12_laysEnd_27 : decode cX12_laysEnd 27 = .ok (.invokestatic 262, 3) := by decide +kernel
theorem dX12_laysEnd_30 : decode cX12_laysEnd 30 = .ok (.iload 4, 2) := by decide +kernel
theorem dX12_laysEnd_32 : decode cX12_laysEnd 32 = .ok (.iload_n 2, 1) := by decide +kernel
theorem dX12_laysEnd_33 : decode cX12_laysEnd 33 = .ok (.if_icmp .ne 7, 3) := by decide +kernel
theorem dX12_laysEnd_36 : decode cX12_laysEnd 36 = .ok (.iconst 0, 1) := by decide +kernel
theorem dX12_laysEnd_37 : decode cX12_laysEnd 37 = .ok (.goto 6, 3) := by decide +kernel
theorem dX12_laysEnd_40 : decode cX12_laysEnd 40 = .ok (.ldc_w 273, 3) := by decide +kernel
theorem dX12_laysEnd_43 : decode cX12_laysEnd 43 = .ok (.iastore, 1) := by decide +kernel
theorem dX12_laysEnd_44 : decode cX12_laysEnd 44 = .ok (.iinc 4 1, 3) := by decide +kernel
theorem dX12_laysEnd_47 : decode cX12_laysEnd 47 = .ok (.goto (-35), 3) := by decide +kernel
theorem dX12_laysEnd_50 : decode cX12_laysEnd 50 = .ok (.iinc 3 1, 3) := by decide +kernel
theorem dX12_laysEnd_53 : decode cX12_laysEnd 53 = .ok (.goto (-50), 3) := by decide +kernel
theorem dX12_laysEnd_56 : decode cX12_laysEnd 56 = .ok (.iload_n 1, 1) := by decide +kernel
theorem dX12_laysEnd_57 : decode cX12_laysEnd 57 = .ok (.iconst 1, 1) := by decide +kernel
theorem dX12_laysEnd_58 : decode cX12_laysEnd 58 = .ok (.isub, 1) := by decide +kernel
theorem dX12_laysEnd_59 : decode cX12_laysEnd 59 = .ok (.istore_n 3, 1) := by decide +kernel
theorem dX12_laysEnd_60 : decode cX12_laysEnd 60 = .ok (.iload_n 3, 1) := by decide +kernel
theorem dX12_laysEnd_61 : decode cX12_laysEnd 61 = .ok (.ifCond .lt 64, 3) := by decide +kernel
theorem dX12_laysEnd_64 : decode cX12_laysEnd 64 = .ok (.bipush (-2), 2) := by decide +kernel
theorem dX12_laysEnd_66 : decode cX12_laysEnd 66 = .ok (.istore 4, 2) := by decide +kernel
theorem dX12_laysEnd_68 : decode cX12_laysEnd 68 = .ok (.iload 4, 2) := by decide +kernel
theorem dX12_laysEnd_70 : decode cX12_laysEnd 70 = .ok (.iconst 2, 1) := by decide +kernel
theorem dX12_laysEnd_71 : decode cX12_laysEnd 71 = .ok (.if_icmp .gt 48, 3) := by decide +kernel
theorem dX12_laysEnd_74 : decode cX12_laysEnd 74 = .ok (.bipush (-20), 2) := by decide +kernel
theorem dX12_laysEnd_76 : decode cX12_laysEnd 76 = .ok (.istore 5, 2) := by decide +kernel
theorem dX12_laysEnd_78 : decode cX12_laysEnd 78 = .ok (.iload 5, 2) := by decide +kernel
theorem dX12_laysEnd_80 : decode cX12_laysEnd 80 = .ok (.bipush 20, 2) := by decide +kernel
theorem dX12_laysEnd_82 : decode cX12_laysEnd 82 = .ok (.if_icmp .gt 31, 3) := by decide +kernel
theorem dX12_laysEnd_85 : decode cX12_laysEnd 85 = .ok (.aload_n 0, 1) := by decide +kernel
theorem dX12_laysEnd_86 : decode cX12_laysEnd 86 = .ok (.getfield 39, 3) := by decide +kernel
theorem dX12_laysEnd_89 : decode cX12_laysEnd 89 = .ok (.iload_n 3, 1) := by decide +kernel
theorem dX12_laysEnd_90 : decode cX12_laysEnd 90 = .ok (.iload 4, 2) := by decide +kernel
theorem dX12_laysEnd_92 : decode cX12_laysEnd 92 = .ok (.iload 5, 2) := by decide +kernel
theorem dX12_laysEnd_94 : decode cX12_laysEnd 94 = .ok (.invokestatic 262, 3) := by decide +kernel
theorem dX12_laysEnd_97 : decode cX12_laysEnd 97 = .ok (.aload_n 0, 1) := by decide +kernel
theorem dX12_laysEnd_98 : decode cX12_laysEnd 98 = .ok (.iload_n 3, 1) := by decide +kernel
theorem dX12_laysEnd_99 : decode cX12_laysEnd 99 = .ok (.iload 4, 2) := by decide +kernel
theorem dX12_laysEnd_101 : decode cX12_laysEnd 101 = .ok (.iload 5, 2) := by decide +kernel
theorem dX12_laysEnd_103 : decode cX12_laysEnd 103 = .ok (.invokevirtual 284, 3) := by decide +kernel
theorem dX12_laysEnd_106 : decode cX12_laysEnd 106 = .ok (.iastore, 1) := by decide +kernel
theorem dX12_laysEnd_107 : decode cX12_laysEnd 107 = .ok (.iinc 5 1, 3) := by decide +kernel
theorem dX12_laysEnd_110 : decode cX12_laysEnd 110 = .ok (.goto (-32), 3) := by decide +kernel
theorem dX12_laysEnd_113 : decode cX12_laysEnd 113 = .ok (.iinc 4 1, 3) := by decide +kernel
theorem dX12_laysEnd_116 : decode cX12_laysEnd 116 = .ok (.goto (-48), 3) := by decide +kernel
theorem dX12_laysEnd_119 : decode cX12_laysEnd 119 = .ok (.iinc 3 (-1), 3) := by decide +kernel
theorem dX12_laysEnd_122 : decode cX12_laysEnd 122 = .ok (.goto (-62), 3) := by decide +kernel
theorem dX12_laysEnd_125 : decode cX12_laysEnd 125 = .ok (.return_, 1) := by decide +kernel
theorem dX12_orderBy_0 : decode cX12_orderBy 0 = .ok (.aload_n 0, 1) := by decide +kernel
theorem dX12_orderBy_1 : decode cX12_orderBy 1 = .ok (.iload_n 3, 1) := by decide +kernel
theorem dX12_orderBy_2 : decode cX12_orderBy 2 = .ok (.iload_n 2, 1) := by decide +kernel
theorem dX12_orderBy_3 : decode cX12_orderBy 3 = .ok (.iload 4, 2) := by decide +kernel
theorem dX12_orderBy_5 : decode cX12_orderBy 5 = .ok (.invokevirtual 450, 3) := by decide +kernel
theorem dX12_orderBy_8 : decode cX12_orderBy 8 = .ok (.istore 5, 2) := by decide +kernel
theorem dX12_orderBy_10 : decode cX12_orderBy 10 = .ok (.aload_n 0, 1) := by decide +kernel
theorem dX12_orderBy_11 : decode cX12_orderBy 11 = .ok (.getfield 61, 3) := by decide +kernel
theorem dX12_orderBy_14 : decode cX12_orderBy 14 = .ok (.bipush 41, 2) := by decide +kernel
theorem dX12_orderBy_16 : decode cX12_orderBy 16 = .ok (.iload_n 1, 1) := by decide +kernel
theorem dX12_orderBy_17 : decode cX12_orderBy 17 = .ok (.iconst 1, 1) := by decide +kernel
theorem dX12_orderBy_18 : decode cX12_orderBy 18 = .ok (.iload_n 3, 1) := by decide +kernel
theorem dX12_orderBy_19 : decode cX12_orderBy 19 = .ok (.ishl, 1) := by decide +kernel
theorem dX12_orderBy_20 : decode cX12_orderBy 20 = .ok (.iconst (-1), 1) := by decide +kernel
theorem dX12_orderBy_21 : decode cX12_orderBy 21 = .ok (.ixor, 1) := by decide +kernel
theorem dX12_orderBy_22 : decode cX12_orderBy 22 = .ok (.iand, 1) := by decide +kernel
theorem dX12_orderBy_23 : decode cX12_orderBy 23 = .ok (.imul, 1) := by decide +kernel
theorem dX12_orderBy_24 : decode cX12_orderBy 24 = .ok (.iload 4, 2) := by decide +kernel
theorem dX12_orderBy_26 : decode cX12_orderBy 26 = .ok (.iadd, 1) := by decide +kernel
theorem dX12_orderBy_27 : decode cX12_orderBy 27 = .ok (.iaload, 1) := by decide +kernel
theorem dX12_orderBy_28 : decode cX12_orderBy 28 = .ok (.istore 6, 2) := by decide +kernel
theorem dX12_orderBy_30 : decode cX12_orderBy 30 = .ok (.iload 5, 2) := by decide +kernel
theorem dX12_orderBy_32 : decode cX12_orderBy 32 = .ok (.ldc_w 273, 3) := by decide +kernel
theorem dX12_orderBy_35 : decode cX12_orderBy 35 = .ok (.if_icmp .eq 11, 3) := by decide +kernel
theorem dX12_orderBy_38 : decode cX12_orderBy 38 = .ok (.iload 6, 2) := by decide +kernel
theorem dX12_orderBy_40 : decode cX12_orderBy 40 = .ok (.ldc_w 273, 3) := by decide +kernel
theorem dX12_orderBy_43 : decode cX12_orderBy 43 = .ok (.if_icmp .ne 9, 3) := by decide +kernel
theorem dX12_orderBy_46 : decode cX12_orderBy 46 = .ok (.ldc_w 273, 3) := by decide +kernel
theorem dX12_orderBy_49 : decode cX12_orderBy 49 = .ok (.goto 8, 3) := by decide +kernel
theorem dX12_orderBy_52 : decode cX12_orderBy 52 = .ok (.iload 5, 2) := by decide +kernel
theorem dX12_orderBy_54 : decode cX12_orderBy 54 = .ok (.iload 6, 2) := by decide +kernel
theorem dX12_orderBy_56 : decode cX12_orderBy 56 = .ok (.iadd, 1) := by decide +kernel
theorem dX12_orderBy_57 : decode cX12_orderBy 57 = .ok (.ireturn, 1) := by decide +kernel
theorem dX12_laysOrders_0 : decode cX12_laysOrders 0 = .ok (.iconst 0, 1) := by decide +kernel
theorem dX12_laysOrders_1 : decode cX12_laysOrders 1 = .ok (.istore_n 2, 1) := by decide +kernel
theorem dX12_laysOrders_2 : decode cX12_laysOrders 2 = .ok (.iload_n 2, 1) := by decide +kernel
theorem dX12_laysOrders_3 : decode cX12_laysOrders 3 = .ok (.bipush 41, 2) := by decide +kernel
theorem dX12_laysOrders_5 : decode cX12_laysOrders 5 = .ok (.if_icmp .ge 30, 3) := by decide +kernel
theorem dX12_laysOrders_8 : decode cX12_laysOrders 8 = .ok (.aload_n 0, 1) := by decide +kernel
theorem dX12_laysOrders_9 : decode cX12_laysOrders 9 = .ok (.getfield 61, 3) := by decide +kernel
theorem dX12_laysOrders_12 : decode cX12_laysOrders 12 = .ok (.iload_n 2, 1) := by decide +kernel
theorem dX12_laysOrders_13 : decode cX12_laysOrders 13 = .ok (.iload_n 2, 1) := by decide +kernel
theorem dX12_laysOrders_14 : decode cX12_laysOrders 14 = .ok (.bipush 20, 2) := by decide +kernel
theorem dX12_laysOrders_16 : decode cX12_laysOrders 16 = .ok (.isub, 1) := by decide +kernel
theorem dX12_laysOrders_17 : decode cX12_laysOrders 17 = .ok (.iload_n 1, 1) := by decide +kernel
theorem dX12_laysOrders_18 : decode cX12_laysOrders 18 = .ok (.if_icmp .lt 7, 3) := by decide +kernel
theorem dX12_laysOrders_21 : decode cX12_laysOrders 21 = .ok (.iconst 0, 1) := by decide +kernel
theorem dX12_laysOrders_22 : decode cX12_laysOrders 22 = .ok (.goto 6, 3) := by decide +kernel
theorem dX12_laysOrders_25 : decode cX12_laysOrders 25 = .ok (.ldc_w 273, 3) := by decide +kernel
theorem dX12_laysOrders_28 : decode cX12_laysOrders 28 = .ok (.iastore, 1) := by decide +kernel
theorem dX12_laysOrders_29 : decode cX12_laysOrders 29 = .ok (.iinc 2 1, 3) := by decide +kernel
theorem dX12_laysOrders_32 : decode cX12_laysOrders 32 = .ok (.goto (-30), 3) := by decide +kernel
theorem dX12_laysOrders_35 : decode cX12_laysOrders 35 = .ok (.iconst 1, 1) := by decide +kernel
theorem dX12_laysOrders_36 : decode cX12_laysOrders 36 = .ok (.istore_n 2, 1) := by decide +kernel
theorem dX12_laysOrders_37 : decode cX12_laysOrders 37 = .ok (.iload_n 2, 1) := by decide +kernel
theorem dX12_laysOrders_38 : decode cX12_laysOrders 38 = .ok (.iconst 1, 1) := by decide +kernel
theorem dX12_laysOrders_39 : decode cX12_laysOrders 39 = .ok (.aload_n 0, 1) := by decide +kernel
theorem dX12_laysOrders_40 : decode cX12_laysOrders 40 = .ok (.getfield 13, 3) := by decide +kernel
theorem dX12_laysOrders_43 : decode cX12_laysOrders 43 = .ok (.iconst 1, 1) := by decide +kernel
theorem dX12_laysOrders_44 : decode cX12_laysOrders 44 = .ok (.iaload, 1) := by decide +kernel
theorem dX12_laysOrders_45 : decode cX12_laysOrders 45 = .ok (.ishl, 1) := by decide +kernel
theorem dX12_laysOrders_46 : decode cX12_laysOrders 46 = .ok (.if_icmp .ge 115, 3) := by decide +kernel
theorem dX12_laysOrders_49 : decode cX12_laysOrders 49 = .ok (.iconst 0, 1) := by decide +kernel
theorem dX12_laysOrders_50 : decode cX12_laysOrders 50 = .ok (.istore_n 3, 1) := by decide +kernel
theorem dX12_laysOrders_51 : decode cX12_laysOrders 51 = .ok (.iload_n 3, 1) := by decide +kernel
theorem dX12_laysOrders_52 : decode cX12_laysOrders 52 = .ok (.bipush 41, 2) := by decide +kernel
theorem dX12_laysOrders_54 : decode cX12_laysOrders 54 = .ok (.if_icmp .ge 101, 3) := by decide +kernel
theorem dX12_laysOrders_57 : decode cX12_laysOrders 57 = .ok (.ldc_w 273, 3) := by decide +kernel
theorem dX12_laysOrders_60 : decode cX12_laysOrders 60 = .ok (.istore 4, 2) := by decide +kernel
theorem dX12_laysOrders_62 : decode cX12_laysOrders 62 = .ok (.iconst 0, 1) := by decide +kernel
theorem dX12_laysOrders_63 : decode cX12_laysOrders 63 = .ok (.istore 5, 2) := by decide +kernel
theorem dX12_laysOrders_65 : decode cX12_laysOrders 65 = .ok (.iload 5, 2) := by decide +kernel
theorem dX12_laysOrders_67 : decode cX12_laysOrders 67 = .ok (.aload_n 0, 1) := by decide +kernel
theorem dX12_laysOrders_68 : decode cX12_laysOrders 68 = .ok (.getfield 13, 3) := by decide +kernel
theorem dX12_laysOrders_71 : decode cX12_laysOrders 71 = .ok (.iconst 1, 1) := by decide +kernel
theorem dX12_laysOrders_72 : decode cX12_laysOrders 72 = .ok (.iaload, 1) := by decide +kernel
theorem dX12_laysOrders_73 : decode cX12_laysOrders 73 = .ok (.if_icmp .ge 63, 3) := by decide +kernel
theorem dX12_laysOrders_76 : decode cX12_laysOrders 76 = .ok (.iconst 0, 1) := by decide +kernel
theorem dX12_laysOrders_77 : decode cX12_laysOrders 77 = .ok (.istore 6, 2) := by decide +kernel
theorem dX12_laysOrders_79 : decode cX12_laysOrders 79 = .ok (.iload 6, 2) := by decide +kernel
theorem dX12_laysOrders_81 : decode cX12_laysOrders 81 = .ok (.bipush 41, 2) := by decide +kernel
theorem dX12_laysOrders_83 : decode cX12_laysOrders 83 = .ok (.if_icmp .ge 47, 3) := by decide +kernel
theorem dX12_laysOrders_86 : decode cX12_laysOrders 86 = .ok (.iload_n 2, 1) := by decide +kernel
theorem dX12_laysOrders_87 : decode cX12_laysOrders 87 = .ok (.i2l, 1) := by decide +kernel
theorem dX12_laysOrders_88 : decode cX12_laysOrders 88 = .ok (.iload 5, 2) := by decide +kernel
theorem dX12_laysOrders_90 : decode cX12_laysOrders 90 = .ok (.invokestatic 315, 3) := by decide +kernel
theorem dX12_laysOrders_93 : decode cX12_laysOrders 93 = .ok (.ifCond .eq 37, 3) := by decide +kernel
theorem dX12_laysOrders_96 : decode cX12_laysOrders 96 = .ok (.aload_n 0, 1) := by decide +kernel
theorem dX12_laysOrders_97 : decode cX12_laysOrders 97 = .ok (.iload_n 2, 1) := by decide +kernel
theorem dX12_laysOrders_98 : decode cX12_laysOrders 98 = .ok (.iload_n 3, 1) := by decide +kernel
theorem dX12_laysOrders_99 : decode cX12_laysOrders 99 = .ok (.iload 5, 2) := by decide +kernel
theorem dX12_laysOrders_101 : decode cX12_laysOrders 101 = .ok (.iload 6, 2) := by decide +kernel
theorem dX12_laysOrders_103 : decode cX12_laysOrders 103 = .ok (.invokevirtual 453, 3) := by decide +kernel
theorem dX12_laysOrders_106 : decode cX12_laysOrders 106 = .ok (.istore 7, 2) := by decide +kernel
theorem dX12_laysOrders_108 : decode cX12_laysOrders 108 = .ok (.iload 7, 2) := by decide +kernel
theorem dX12_laysOrders_110 : decode cX12_laysOrders 110 = .ok (.iload 4, 2) := by decide +kernel
theorem dX12_laysOrders_112 : decode cX12_laysOrders 112 = .ok (.if_icmp .le 8, 3) := by decide +kernel
theorem dX12_laysOrders_115 : decode cX12_laysOrders 115 = .ok (.iload 7, 2) := by decide +kernel
theorem dX12_laysOrders_117 : decode cX12_laysOrders 117 = .ok (.goto 5, 3) := by decide +kernel
theorem dX12_laysOrders_120 : decode cX12_laysOrders 120 = .ok (.iload 4, 2) := by decide +kernel
theorem dX12_laysOrders_122 : decode cX12_laysOrders 122 = .ok (.istore 4, 2) := by decide +kernel
theorem dX12_laysOrders_124 : decode cX12_laysOrders 124 = .ok (.iinc 6 1, 3) := by decide +kernel
theorem dX12_laysOrders_127 : decode cX12_laysOrders 127 = .ok (.goto (-48), 3) := by decide +kernel
theorem dX12_laysOrders_130 : decode cX12_laysOrders 130 = .ok (.iinc 5 1, 3) := by decide +kernel
theorem dX12_laysOrders_133 : decode cX12_laysOrders 133 = .ok (.goto (-68), 3) := by decide +kernel
theorem dX12_laysOrders_136 : decode cX12_laysOrders 136 = .ok (.aload_n 0, 1) := by decide +kernel
theorem dX12_laysOrders_137 : decode cX12_laysOrders 137 = .ok (.getfield 61, 3) := by decide +kernel
theorem dX12_laysOrders_140 : decode cX12_laysOrders 140 = .ok (.bipush 41, 2) := by decide +kernel
theorem dX12_laysOrders_142 : decode cX12_laysOrders 142 = .ok (.iload_n 2, 1) := by decide +kernel
theorem dX12_laysOrders_143 : decode cX12_laysOrders 143 = .ok (.imul, 1) := by decide +kernel
theorem dX12_laysOrders_144 : decode cX12_laysOrders 144 = .ok (.iload_n 3, 1) := by decide +kernel
theorem dX12_laysOrders_145 : decode cX12_laysOrders 145 = .ok (.iadd, 1) := by decide +kernel
theorem dX12_laysOrders_146 : decode cX12_laysOrders 146 = .ok (.iload 4, 2) := by decide +kernel
theorem dX12_laysOrders_148 : decode cX12_laysOrders 148 = .ok (.iastore, 1) := by decide +kernel
theorem dX12_laysOrders_149 : decode cX12_laysOrders 149 = .ok (.iinc 3 1, 3) := by decide +kernel
theorem dX12_laysOrders_152 : decode cX12_laysOrders 152 = .ok (.goto (-101), 3) := by decide +kernel
theorem dX12_laysOrders_155 : decode cX12_laysOrders 155 = .ok (.iinc 2 1, 3) := by decide +kernel
theorem dX12_laysOrders_158 : decode cX12_laysOrders 158 = .ok (.goto (-121), 3) := by decide +kernel
theorem dX12_laysOrders_161 : decode cX12_laysOrders 161 = .ok (.return_, 1) := by decide +kernel
theorem dX12_goesPiece_0 : decode cX12_goesPiece 0 = .ok (.iconst 0, 1) := by decide +kernel
theorem dX12_goesPiece_1 : decode cX12_goesPiece 1 = .ok (.istore_n 3, 1) := by decide +kernel
theorem dX12_goesPiece_2 : decode cX12_goesPiece 2 = .ok (.iconst 0, 1) := by decide +kernel
theorem dX12_goesPiece_3 : decode cX12_goesPiece 3 = .ok (.istore 4, 2) := by decide +kernel
theorem dX12_goesPiece_5 : decode cX12_goesPiece 5 = .ok (.iload 4, 2) := by decide +kernel
theorem dX12_goesPiece_7 : decode cX12_goesPiece 7 = .ok (.bipush 41, 2) := by decide +kernel
theorem dX12_goesPiece_9 : decode cX12_goesPiece 9 = .ok (.if_icmp .ge 17, 3) := by decide +kernel
theorem dX12_goesPiece_12 : decode cX12_goesPiece 12 = .ok (.aload_n 0, 1) := by decide +kernel
theorem dX12_goesPiece_13 : decode cX12_goesPiece 13 = .ok (.getfield 67, 3) := by decide +kernel
theorem dX12_goesPiece_16 : decode cX12_goesPiece 16 = .ok (.iload 4, 2) := by decide +kernel
theorem dX12_goesPiece_18 : decode cX12_goesPiece 18 = .ok (.iconst 0, 1) := by decide +kernel
theorem dX12_goesPiece_19 : decode cX12_goesPiece 19 = .ok (.bastore, 1) := by decide +kernel
theorem dX12_goesPiece_20 : decode cX12_goesPiece 20 = .ok (.iinc 4 1, 3) := by decide +kernel
theorem dX12_goesPiece_23 : decode cX12_goesPiece 23 = .ok (.goto (-18), 3) := by decide +kernel
theorem dX12_goesPiece_26 : decode cX12_goesPiece 26 = .ok (.iconst 0, 1) := by decide +kernel
theorem dX12_goesPiece_27 : decode cX12_goesPiece 27 = .ok (.istore 4, 2) := by decide +kernel
theorem dX12_goesPiece_29 : decode cX12_goesPiece 29 = .ok (.iload 4, 2) := by decide +kernel
theorem dX12_goesPiece_31 : decode cX12_goesPiece 31 = .ok (.bipush 41, 2) := by decide +kernel
theorem dX12_goesPiece_33 : decode cX12_goesPiece 33 = .ok (.if_icmp .ge 85, 3) := by decide +kernel
theorem dX12_goesPiece_36 : decode cX12_goesPiece 36 = .ok (.iconst 0, 1) := by decide +kernel
theorem dX12_goesPiece_37 : decode cX12_goesPiece 37 = .ok (.istore 5, 2) := by decide +kernel
theorem dX12_goesPiece_39 : decode cX12_goesPiece 39 = .ok (.iload 5, 2) := by decide +kernel
theorem dX12_goesPiece_41 : decode cX12_goesPiece 41 = .ok (.bipush 41, 2) := by decide +kernel
theorem dX12_goesPiece_43 : decode cX12_goesPiece 43 = .ok (.if_icmp .ge 69, 3) := by decide +kernel
theorem dX12_goesPiece_46 : decode cX12_goesPiece 46 = .ok (.aload_n 0, 1) := by decide +kernel
theorem dX12_goesPiece_47 : decode cX12_goesPiece 47 = .ok (.getfield 64, 3) := by decide +kernel
theorem dX12_goesPiece_50 : decode cX12_goesPiece 50 = .ok (.iload 4, 2) := by decide +kernel
theorem dX12_goesPiece_52 : decode cX12_goesPiece 52 = .ok (.baload, 1) := by decide +kernel
theorem dX12_goesPiece_53 : decode cX12_goesPiece 53 = .ok (.ifCond .eq 59, 3) := by decide +kernel
theorem dX12_goesPiece_56 : decode cX12_goesPiece 56 = .ok (.aload_n 0, 1) := by decide +kernel
theorem dX12_goesPiece_57 : decode cX12_goesPiece 57 = .ok (.iload_n 1, 1) := by decide +kernel
theorem dX12_goesPiece_58 : decode cX12_goesPiece 58 = .ok (.iload 4, 2) := by decide +kernel
theorem dX12_goesPiece_60 : decode cX12_goesPiece 60 = .ok (.iload_n 2, 1) := by decide +kernel
theorem dX12_goesPiece_61 : decode cX12_goesPiece 61 = .ok (.iload 5, 2) := by decide +kernel
theorem dX12_goesPiece_63 : decode cX12_goesPiece 63 = .ok (.invokevirtual 453, 3) := by decide +kernel
theorem dX12_goesPiece_66 : decode cX12_goesPiece 66 = .ok (.istore 6, 2) := by decide +kernel
theorem dX12_goesPiece_68 : decode cX12_goesPiece 68 = .ok (.iload 6, 2) := by decide +kernel
theorem dX12_goesPiece_70 : decode cX12_goesPiece 70 = .ok (.ldc_w 273, 3) := by decide +kernel
theorem dX12_goesPiece_73 : decode cX12_goesPiece 73 = .ok (.if_icmp .eq 33, 3) := by decide +kernel
theorem dX12_goesPiece_76 : decode cX12_goesPiece 76 = .ok (.iload 6, 2) := by decide +kernel
theorem dX12_goesPiece_78 : decode cX12_goesPiece 78 = .ok (.aload_n 0, 1) := by decide +kernel
theorem dX12_goesPiece_79 : decode cX12_goesPiece 79 = .ok (.getfield 61, 3) := by decide +kernel
theorem dX12_goesPiece_82 : decode cX12_goesPiece 82 = .ok (.bipush 41, 2) := by decide +kernel
theorem dX12_goesPiece_84 : decode cX12_goesPiece 84 = .ok (.iload_n 1, 1) := by decide +kernel
theorem dX12_goesPiece_85 : decode cX12_goesPiece 85 = .ok (.imul, 1) := by decide +kernel
theorem dX12_goesPiece_86 : decode cX12_goesPiece 86 = .ok (.iload 4, 2) := by decide +kernel
theorem dX12_goesPiece_88 : decode cX12_goesPiece 88 = .ok (.iadd, 1) := by decide +kernel
theorem dX12_goesPiece_89 : decode cX12_goesPiece 89 = .ok (.iaload, 1) := by decide +kernel
theorem dX12_goesPiece_90 : decode cX12_goesPiece 90 = .ok (.if_icmp .eq 6, 3) := by decide +kernel
theorem dX12_goesPiece_93 : decode cX12_goesPiece 93 = .ok (.goto 13, 3) := by decide +kernel
theorem dX12_goesPiece_96 : decode cX12_goesPiece 96 = .ok (.aload_n 0, 1) := by decide +kernel
theorem dX12_goesPiece_97 : decode cX12_goesPiece 97 = .ok (.getfield 67, 3) := by decide +kernel
theorem dX12_goesPiece_100 : decode cX12_goesPiece 100 = .ok (.iload 5, 2) := by decide +kernel
theorem dX12_goesPiece_102 : decode cX12_goesPiece 102 = .ok (.iconst 1, 1) := by decide +kernel
theorem dX12_goesPiece_103 : decode cX12_goesPiece 103 = .ok (.bastore, 1) := by decide +kernel
theorem dX12_goesPiece_104 : decode cX12_goesPiece 104 = .ok (.iconst 1, 1) := by decide +kernel
theorem dX12_goesPiece_105 : decode cX12_goesPiece 105 = .ok (.istore_n 3, 1) := by decide +kernel
theorem dX12_goesPiece_106 : decode cX12_goesPiece 106 = .ok (.iinc 5 1, 3) := by decide +kernel
theorem dX12_goesPiece_109 : decode cX12_goesPiece 109 = .ok (.goto (-70), 3) := by decide +kernel
theorem dX12_goesPiece_112 : decode cX12_goesPiece 112 = .ok (.iinc 4 1, 3) := by decide +kernel
theorem dX12_goesPiece_115 : decode cX12_goesPiece 115 = .ok (.goto (-86), 3) := by decide +kernel
theorem dX12_goesPiece_118 : decode cX12_goesPiece 118 = .ok (.iload_n 3, 1) := by decide +kernel
theorem dX12_goesPiece_119 : decode cX12_goesPiece 119 = .ok (.ireturn, 1) := by decide +kernel
theorem dX12_orderAt_0 : decode cX12_orderAt 0 = .ok (.iconst 0, 1) := by decide +kernel
theorem dX12_orderAt_1 : decode cX12_orderAt 1 = .ok (.istore 4, 2) := by decide +kernel
theorem dX12_orderAt_3 : decode cX12_orderAt 3 = .ok (.iload 4, 2) := by decide +kernel
theorem dX12_orderAt_5 : decode cX12_orderAt 5 = .ok (.bipush 41, 2) := by decide +kernel
theorem dX12_orderAt_7 : decode cX12_orderAt 7 = .ok (.if_icmp .ge 30, 3) := by decide +kernel
theorem dX12_orderAt_10 : decode cX12_orderAt 10 = .ok (.aload_n 0, 1) := by decide +kernel
theorem dX12_orderAt_11 : decode cX12_orderAt 11 = .ok (.getfield 64, 3) := by decide +kernel
theorem dX12_orderAt_14 : decode cX12_orderAt 14 = .ok (.iload 4, 2) := by decide +kernel
theorem dX12_orderAt_16 : decode cX12_orderAt 16 = .ok (.iload 4, 2) := by decide +kernel
theorem dX12_orderAt_18 : decode cX12_orderAt 18 = .ok (.iload_n 2, 1) := by decide +kernel
theorem dX12_orderAt_19 : decode cX12_orderAt 19 = .ok (.bipush 20, 2) := by decide +kernel
theorem dX12_orderAt_21 : decode cX12_orderAt 21 = .ok (.iadd, 1) := by decide +kernel
theorem dX12_orderAt_22 : decode cX12_orderAt 22 = .ok (.if_icmp .ne 7, 3) := by decide +kernel
theorem dX12_orderAt_25 : decode cX12_orderAt 25 = .ok (.iconst 1, 1) := by decide +kernel
theorem dX12_orderAt_26 : decode cX12_orderAt 26 = .ok (.goto 4, 3) := by decide +kernel
theorem dX12_orderAt_29 : decode cX12_orderAt 29 = .ok (.iconst 0, 1) := by decide +kernel
theorem dX12_orderAt_30 : decode cX12_orderAt 30 = .ok (.bastore, 1) := by decide +kernel
theorem dX12_orderAt_31 : decode cX12_orderAt 31 = .ok (.iinc 4 1, 3) := by decide +kernel
theorem dX12_orderAt_34 : decode cX12_orderAt 34 = .ok (.goto (-31), 3) := by decide +kernel
theorem dX12_orderAt_37 : decode cX12_orderAt 37 = .ok (.iload_n 1, 1) := by decide +kernel
theorem dX12_orderAt_38 : decode cX12_orderAt 38 = .ok (.istore 4, 2) := by decide +kernel
theorem dX12_orderAt_40 : decode cX12_orderAt 40 = .ok (.iconst 0, 1) := by decide +kernel
theorem dX12_orderAt_41 : decode cX12_orderAt 41 = .ok (.istore 5, 2) := by decide +kernel
theorem dX12_orderAt_43 : decode cX12_orderAt 43 = .ok (.iload 4, 2) := by decide +kernel
theorem dX12_orderAt_45 : decode cX12_orderAt 45 = .ok (.ifCond .eq 90, 3) := by decide +kernel
theorem dX12_orderAt_48 : decode cX12_orderAt 48 = .ok (.iconst 0, 1) := by decide +kernel
theorem dX12_orderAt_49 : decode cX12_orderAt 49 = .ok (.istore 6, 2) := by decide +kernel
theorem dX12_orderAt_51 : decode cX12_orderAt 51 = .ok (.iload 4, 2) := by decide +kernel
theorem dX12_orderAt_53 : decode cX12_orderAt 53 = .ok (.i2l, 1) := by decide +kernel
theorem dX12_orderAt_54 : decode cX12_orderAt 54 = .ok (.iload 6, 2) := by decide +kernel
theorem dX12_orderAt_56 : decode cX12_orderAt 56 = .ok (.invokestatic 315, 3) := by decide +kernel
theorem dX12_orderAt_59 : decode cX12_orderAt 59 = .ok (.ifCond .eq 14, 3) := by decide +kernel
theorem dX12_orderAt_62 : decode cX12_orderAt 62 = .ok (.aload_n 0, 1) := by decide +kernel
theorem dX12_orderAt_63 : decode cX12_orderAt 63 = .ok (.iload 4, 2) := by decide +kernel
theorem dX12_orderAt_65 : decode cX12_orderAt 65 = .ok (.iload 6, 2) := by decide +kernel
theorem dX12_orderAt_67 : decode cX12_orderAt 67 = .ok (.invokevirtual 456, 3) := by decide +kernel
theorem dX12_orderAt_70 : decode cX12_orderAt 70 = .ok (.ifCond .ne 9, 3) := by decide +kernel
theorem dX12_orderAt_73 : decode cX12_orderAt 73 = .ok (.iinc 6 1, 3) := by decide +kernel
theorem dX12_orderAt_76 : decode cX12_orderAt 76 = .ok (.goto (-25), 3) := by decide +kernel
theorem dX12_orderAt_79 : decode cX12_orderAt 79 = .ok (.iload 5, 2) := by decide +kernel
theorem dX12_orderAt_81 : decode cX12_orderAt 81 = .ok (.iload_n 3, 1) := by decide +kernel
theorem dX12_orderAt_82 : decode cX12_orderAt 82 = .ok (.if_icmp .ne 6, 3) := by decide +kernel
theorem dX12_orderAt_85 : decode cX12_orderAt 85 = .ok (.iload 6, 2) := by decide +kernel
theorem dX12_orderAt_87 : decode cX12_orderAt 87 = .ok (.ireturn, 1) := by decide +kernel
theorem dX12_orderAt_88 : decode cX12_orderAt 88 = .ok (.iconst 0, 1) := by decide +kernel
theorem dX12_orderAt_89 : decode cX12_orderAt 89 = .ok (.istore 7, 2) := by decide +kernel
theorem dX12_orderAt_91 : decode cX12_orderAt 91 = .ok (.iload 7, 2) := by decide +kernel
theorem dX12_orderAt_93 : decode cX12_orderAt 93 = .ok (.bipush 41, 2) := by decide +kernel
theorem dX12_orderAt_95 : decode cX12_orderAt 95 = .ok (.if_icmp .ge 23, 3) := by decide +kernel
theorem dX12_orderAt_98 : decode cX12_orderAt 98 = .ok (.aload_n 0, 1) := by decide +kernel
theorem dX12_orderAt_99 : decode cX12_orderAt 99 = .ok (.getfield 64, 3) := by decide +kernel
theorem dX12_orderAt_102 : decode cX12_orderAt 102 = .ok (.iload 7, 2) := by decide +kernel
theorem dX12_orderAt_104 : decode cX12_orderAt 104 = .ok (.aload_n 0, 1) := by decide +kernel
theorem dX12_orderAt_105 : decode cX12_orderAt 105 = .ok (.getfield 67, 3) := by decide +kernel
theorem dX12_orderAt_108 : decode cX12_orderAt 108 = .ok (.iload 7, 2) := by decide +kernel
theorem dX12_orderAt_110 : decode cX12_orderAt 110 = .ok (.baload, 1) := by decide +kernel
theorem dX12_orderAt_111 : decode cX12_orderAt 111 = .ok (.bastore, 1) := by decide +kernel
theorem dX12_orderAt_112 : decode cX12_orderAt 112 = .ok (.iinc 7 1, 3) := by decide +kernel
theorem dX12_orderAt_115 : decode cX12_orderAt 115 = .ok (.goto (-24), 3) := by decide +kernel
theorem dX12_orderAt_118 : decode cX12_orderAt 118 = .ok (.iload 4, 2) := by decide +kernel
theorem dX12_orderAt_120 : decode cX12_orderAt 120 = .ok (.iconst 1, 1) := by decide +kernel
theorem dX12_orderAt_121 : decode cX12_orderAt 121 = .ok (.iload 6, 2) := by decide +kernel
theorem dX12_orderAt_123 : decode cX12_orderAt 123 = .ok (.ishl, 1) := by decide +kernel
theorem dX12_orderAt_124 : decode cX12_orderAt 124 = .ok (.iconst (-1), 1) := by decide +kernel
theorem dX12_orderAt_125 : decode cX12_orderAt 125 = .ok (.ixor, 1) := by decide +kernel
theorem dX12_orderAt_126 : decode cX12_orderAt 126 = .ok (.iand, 1) := by decide +kernel
theorem dX12_orderAt_127 : decode cX12_orderAt 127 = .ok (.istore 4, 2) := by decide +kernel
theorem dX12_orderAt_129 : decode cX12_orderAt 129 = .ok (.iinc 5 1, 3) := by decide +kernel
theorem dX12_orderAt_132 : decode cX12_orderAt 132 = .ok (.goto (-89), 3) := by decide +kernel
theorem dX12_orderAt_135 : decode cX12_orderAt 135 = .ok (.iconst (-1), 1) := by decide +kernel
theorem dX12_orderAt_136 : decode cX12_orderAt 136 = .ok (.ireturn, 1) := by decide +kernel
theorem dX12_order_0 : decode cX12_order 0 = .ok (.aload_n 0, 1) := by decide +kernel
theorem dX12_order_1 : decode cX12_order 1 = .ok (.iconst 0, 1) := by decide +kernel
theorem dX12_order_2 : decode cX12_order 2 = .ok (.putfield 1, 3) := by decide +kernel
theorem dX12_order_5 : decode cX12_order 5 = .ok (.aload_n 0, 1) := by decide +kernel
theorem dX12_order_6 : decode cX12_order 6 = .ok (.iload_n 1, 1) := by decide +kernel
theorem dX12_order_7 : decode cX12_order 7 = .ok (.i2l, 1) := by decide +kernel
theorem dX12_order_8 : decode cX12_order 8 = .ok (.invokevirtual 244, 3) := by decide +kernel
theorem dX12_order_11 : decode cX12_order 11 = .ok (.ifCond .eq 23, 3) := by decide +kernel
theorem dX12_order_14 : decode cX12_order 14 = .ok (.iload 4, 2) := by decide +kernel
theorem dX12_order_16 : decode cX12_order 16 = .ok (.ifCond .eq 21, 3) := by decide +kernel
theorem dX12_order_19 : decode cX12_order 19 = .ok (.iload 4, 2) := by decide +kernel
theorem dX12_order_21 : decode cX12_order 21 = .ok (.i2l, 1) := by decide +kernel
theorem dX12_order_22 : decode cX12_order 22 = .ok (.ldc2_w 361, 3) := by decide +kernel
theorem dX12_order_25 : decode cX12_order 25 = .ok (.ldc2_w 459, 3) := by decide +kernel
theorem dX12_order_28 : decode cX12_order 28 = .ok (.invokestatic 152, 3) := by decide +kernel
theorem dX12_order_31 : decode cX12_order 31 = .ok (.ifCond .ne 6, 3) := by decide +kernel
theorem dX12_order_34 : decode cX12_order 34 = .ok (.ldc 247, 2) := by decide +kernel
theorem dX12_order_36 : decode cX12_order 36 = .ok (.ireturn, 1) := by decide +kernel
theorem dX12_order_37 : decode cX12_order 37 = .ok (.iload_n 2, 1) := by decide +kernel
theorem dX12_order_38 : decode cX12_order 38 = .ok (.ifCond .le 23, 3) := by decide +kernel
theorem dX12_order_41 : decode cX12_order 41 = .ok (.iload_n 2, 1) := by decide +kernel
theorem dX12_order_42 : decode cX12_order 42 = .ok (.iconst 1, 1) := by decide +kernel
theorem dX12_order_43 : decode cX12_order 43 = .ok (.aload_n 0, 1) := by decide +kernel
theorem dX12_order_44 : decode cX12_order 44 = .ok (.getfield 13, 3) := by decide +kernel
theorem dX12_order_47 : decode cX12_order 47 = .ok (.iconst 1, 1) := by decide +kernel
theorem dX12_order_48 : decode cX12_order 48 = .ok (.iaload, 1) := by decide +kernel
theorem dX12_order_49 : decode cX12_order 49 = .ok (.ishl, 1) := by decide +kernel
theorem dX12_order_50 : decode cX12_order 50 = .ok (.if_icmp .ge 11, 3) := by decide +kernel
theorem dX12_order_53 : decode cX12_order 53 = .ok (.iload_n 3, 1) := by decide +kernel
theorem dX12_order_54 : decode cX12_order 54 = .ok (.i2l, 1) := by decide +kernel
theorem dX12_order_55 : decode cX12_order 55 = .ok (.invokestatic 240, 3) := by decide +kernel
theorem dX12_order_58 : decode cX12_order 58 = .ok (.ifCond .ne 6, 3) := by decide +kernel
theorem dX12_order_61 : decode cX12_order 61 = .ok (.ldc 206, 2) := by decide +kernel
theorem dX12_order_63 : decode cX12_order 63 = .ok (.ireturn, 1) := by decide +kernel
theorem dX12_order_64 : decode cX12_order 64 = .ok (.aload_n 0, 1) := by decide +kernel
theorem dX12_order_65 : decode cX12_order 65 = .ok (.iload_n 1, 1) := by decide +kernel
theorem dX12_order_66 : decode cX12_order 66 = .ok (.invokevirtual 461, 3) := by decide +kernel
theorem dX12_order_69 : decode cX12_order 69 = .ok (.aload_n 0, 1) := by decide +kernel
theorem dX12_order_70 : decode cX12_order 70 = .ok (.iload_n 3, 1) := by decide +kernel
theorem dX12_order_71 : decode cX12_order 71 = .ok (.invokevirtual 464, 3) := by decide +kernel
theorem dX12_order_74 : decode cX12_order 74 = .ok (.aload_n 0, 1) := by decide +kernel
theorem dX12_order_75 : decode cX12_order 75 = .ok (.getfield 61, 3) := by decide +kernel
theorem dX12_order_78 : decode cX12_order 78 = .ok (.bipush 41, 2) := by decide +kernel
theorem dX12_order_80 : decode cX12_order 80 = .ok (.iload_n 2, 1) := by decide +kernel
theorem dX12_order_81 : decode cX12_order 81 = .ok (.imul, 1) := by decide +kernel
theorem dX12_order_82 : decode cX12_order 82 = .ok (.aload_n 0, 1) := by decide +kernel
theorem dX12_order_83 : decode cX12_order 83 = .ok (.getfield 13, 3) := by decide +kernel
theorem dX12_order_86 : decode cX12_order 86 = .ok (.bipush 77, 2) := by decide +kernel
theorem dX12_order_88 : decode cX12_order 88 = .ok (.iload_n 1, 1) := by decide +kernel
theorem dX12_order_89 : decode cX12_order 89 = .ok (.iadd, 1) := by decide +kernel
theorem dX12_order_90 : decode cX12_order 90 = .ok (.iaload, 1) := by decide +kernel
theorem dX12_order_91 : decode cX12_order 91 = .ok (.iadd, 1) := by decide +kernel
theorem dX12_order_92 : decode cX12_order 92 = .ok (.bipush 20, 2) := by decide +kernel
theorem dX12_order_94 : decode cX12_order 94 = .ok (.iadd, 1) := by decide +kernel
theorem dX12_order_95 : decode cX12_order 95 = .ok (.iaload, 1) := by decide +kernel
theorem dX12_order_96 : decode cX12_order 96 = .ok (.istore 5, 2) := by decide +kernel
theorem dX12_order_98 : decode cX12_order 98 = .ok (.iload 5, 2) := by decide +kernel
theorem dX12_order_100 : decode cX12_order 100 = .ok (.ldc_w 273, 3) := by decide +kernel
theorem dX12_order_103 : decode cX12_order 103 = .ok (.if_icmp .ne 9, 3) := by decide +kernel
theorem dX12_order_106 : decode cX12_order 106 = .ok (.ldc_w 422, 3) := by decide +kernel
theorem dX12_order_109 : decode cX12_order 109 = .ok (.goto 32, 3) := by decide +kernel
theorem dX12_order_112 : decode cX12_order 112 = .ok (.iload 4, 2) := by decide +kernel
theorem dX12_order_114 : decode cX12_order 114 = .ok (.ifCond .ne 8, 3) := by decide +kernel
theorem dX12_order_117 : decode cX12_order 117 = .ok (.iload 5, 2) := by decide +kernel
theorem dX12_order_119 : decode cX12_order 119 = .ok (.goto 22, 3) := by decide +kernel
theorem dX12_order_122 : decode cX12_order 122 = .ok (.aload_n 0, 1) := by decide +kernel
theorem dX12_order_123 : decode cX12_order 123 = .ok (.iload_n 2, 1) := by decide +kernel
theorem dX12_order_124 : decode cX12_order 124 = .ok (.aload_n 0, 1) := by decide +kernel
theorem dX12_order_125 : decode cX12_order 125 = .ok (.getfield 13, 3) := by decide +kernel
theorem dX12_order_128 : decode cX12_order 128 = .ok (.bipush 77, 2) := by decide +kernel
theorem dX12_order_130 : decode cX12_order 130 = .ok (.iload_n 1, 1) := by decide +kernel
theorem dX12_order_131 : decode cX12_order 131 = .ok (.iadd, 1) := by decide +kernel
theorem dX12_order_132 : decode cX12_order 132 = .ok (.iaload, 1) := by decide +kernel
theorem dX12_order_133 : decode cX12_order 133 = .ok (.iload 4, 2) := by decide +kernel
theorem dX12_order_135 : decode cX12_order 135 = .ok (.bipush 10, 2) := by decide +kernel
theorem dX12_order_137 : decode cX12_order 137 = .ok (.isub, 1) := by decide +kernel
theorem dX12_order_138 : decode cX12_order 138 = .ok (.invokevirtual 467, 3) := by decide +kernel
theorem dX12_order_141 : decode cX12_order 141 = .ok (.ireturn, 1) := by decide +kernel
theorem dX12_mostPieces_0 : decode cX12_mostPieces 0 = .ok (.aload_n 0, 1) := by decide +kernel
theorem dX12_mostPieces_1 : decode cX12_mostPieces 1 = .ok (.iconst 0, 1) := by decide +kernel
theorem dX12_mostPieces_2 : decode cX12_mostPieces 2 = .ok (.putfield 1, 3) := by decide +kernel
theorem dX12_mostPieces_5 : decode cX12_mostPieces 5 = .ok (.aload_n 0, 1) := by decide +kernel
theorem dX12_mostPieces_6 : decode cX12_mostPieces 6 = .ok (.iload_n 1, 1) := by decide +kernel
theorem dX12_mostPieces_7 : decode cX12_mostPieces 7 = .ok (.i2l, 1) := by decide +kernel
theorem dX12_mostPieces_8 : decode cX12_mostPieces 8 = .ok (.invokevirtual 244, 3) := by decide +kernel
theorem dX12_mostPieces_11 : decode cX12_mostPieces 11 = .ok (.ifCond .ne 6, 3) := by decide +kernel
theorem dX12_mostPieces_14 : decode cX12_mostPieces 14 = .ok (.ldc 247, 2) := by decide +kernel
theorem dX12_mostPieces_16 : decode cX12_mostPieces 16 = .ok (.ireturn, 1) := by decide +kernel
theorem dX12_mostPieces_17 : decode cX12_mostPieces 17 = .ok (.iload_n 2, 1) := by decide +kernel
theorem dX12_mostPieces_18 : decode cX12_mostPieces 18 = .ok (.i2l, 1) := by decide +kernel
theorem dX12_mostPieces_19 : decode cX12_mostPieces 19 = .ok (.invokestatic 240, 3) := by decide +kernel
theorem dX12_mostPieces_22 : decode cX12_mostPieces 22 = .ok (.ifCond .ne 6, 3) := by decide +kernel
theorem dX12_mostPieces_25 : decode cX12_mostPieces 25 = .ok (.ldc 206, 2) := by decide +kernel
theorem dX12_mostPieces_27 : decode cX12_mostPieces 27 = .ok (.ireturn, 1) := by decide +kernel
theorem dX12_mostPieces_28 : decode cX12_mostPieces 28 = .ok (.aload_n 0, 1) := by decide +kernel
theorem dX12_mostPieces_29 : decode cX12_mostPieces 29 = .ok (.iload_n 1, 1) := by decide +kernel
theorem dX12_mostPieces_30 : decode cX12_mostPieces 30 = .ok (.invokevirtual 461, 3) := by decide +kernel
theorem dX12_mostPieces_33 : decode cX12_mostPieces 33 = .ok (.aload_n 0, 1) := by decide +kernel
theorem dX12_mostPieces_34 : decode cX12_mostPieces 34 = .ok (.iload_n 2, 1) := by decide +kernel
theorem dX12_mostPieces_35 : decode cX12_mostPieces 35 = .ok (.invokevirtual 464, 3) := by decide +kernel
theorem dX12_mostPieces_38 : decode cX12_mostPieces 38 = .ok (.iconst 0, 1) := by decide +kernel
theorem dX12_mostPieces_39 : decode cX12_mostPieces 39 = .ok (.istore_n 3, 1) := by decide +kernel
theorem dX12_mostPieces_40 : decode cX12_mostPieces 40 = .ok (.iconst 1, 1) := by decide +kernel
theorem dX12_mostPieces_41 : decode cX12_mostPieces 41 = .ok (.istore 4, 2) := by decide +kernel
theorem dX12_mostPieces_43 : decode cX12_mostPieces 43 = .ok (.iload 4, 2) := by decide +kernel
theorem dX12_mostPieces_45 : decode cX12_mostPieces 45 = .ok (.iconst 1, 1) := by decide +kernel
theorem dX12_mostPieces_46 : decode cX12_mostPieces 46 = .ok (.aload_n 0, 1) := by decide +kernel
theorem dX12_mostPieces_47 : decode cX12_mostPieces 47 = .ok (.getfield 13, 3) := by decide +kernel
theorem dX12_mostPieces_50 : decode cX12_mostPieces 50 = .ok (.iconst 1, 1) := by decide +kernel
theorem dX12_mostPieces_51 : decode cX12_mostPieces 51 = .ok (.iaload, 1) := by decide +kernel
theorem dX12_mostPieces_52 : decode cX12_mostPieces 52 = .ok (.ishl, 1) := by decide +kernel
theorem dX12_mostPieces_53 : decode cX12_mostPieces 53 = .ok (.if_icmp .ge 53, 3) := by decide +kernel
theorem dX12_mostPieces_56 : decode cX12_mostPieces 56 = .ok (.aload_n 0, 1) := by decide +kernel
theorem dX12_mostPieces_57 : decode cX12_mostPieces 57 = .ok (.getfield 61, 3) := by decide +kernel
theorem dX12_mostPieces_60 : decode cX12_mostPieces 60 = .ok (.bipush 41, 2) := by decide +kernel
theorem dX12_mostPieces_62 : decode cX12_mostPieces 62 = .ok (.iload 4, 2) := by decide +kernel
theorem dX12_mostPieces_64 : decode cX12_mostPieces 64 = .ok (.imul, 1) := by decide +kernel
theorem dX12_mostPieces_65 : decode cX12_mostPieces 65 = .ok (.aload_n 0, 1) := by decide +kernel
theorem dX12_mostPieces_66 : decode cX12_mostPieces 66 = .ok (.getfield 13, 3) := by decide +kernel
theorem dX12_mostPieces_69 : decode cX12_mostPieces 69 = .ok (.bipush 77, 2) := by decide +kernel
theorem dX12_mostPieces_71 : decode cX12_mostPieces 71 = .ok (.iload_n 1, 1) := by decide +kernel
theorem dX12_mostPieces_72 : decode cX12_mostPieces 72 = .ok (.iadd, 1) := by decide +kernel
theorem dX12_mostPieces_73 : decode cX12_mostPieces 73 = .ok (.iaload, 1) := by decide +kernel
theorem dX12_mostPieces_74 : decode cX12_mostPieces 74 = .ok (.iadd, 1) := by decide +kernel
theorem dX12_mostPieces_75 : decode cX12_mostPieces 75 = .ok (.bipush 20, 2) := by decide +kernel
theorem dX12_mostPieces_77 : decode cX12_mostPieces 77 = .ok (.iadd, 1) := by decide +kernel
theorem dX12_mostPieces_78 : decode cX12_mostPieces 78 = .ok (.iaload, 1) := by decide +kernel
theorem dX12_mostPieces_79 : decode cX12_mostPieces 79 = .ok (.ldc_w 273, 3) := by decide +kernel
theorem dX12_mostPieces_82 : decode cX12_mostPieces 82 = .ok (.if_icmp .eq 18, 3) := by decide +kernel
theorem dX12_mostPieces_85 : decode cX12_mostPieces 85 = .ok (.iload 4, 2) := by decide +kernel
theorem dX12_mostPieces_87 : decode cX12_mostPieces 87 = .ok (.invokestatic 470, 3) := by decide +kernel
theorem dX12_mostPieces_90 : decode cX12_mostPieces 90 = .ok (.iload_n 3, 1) := by decide +kernel
theorem dX12_mostPieces_91 : decode cX12_mostPieces 91 = .ok (.invokestatic 470, 3) := by decide +kernel
theorem dX12_mostPieces_94 : decode cX12_mostPieces 94 = .ok (.if_icmp .le 6, 3) := by decide +kernel
theorem dX12_mostPieces_97 : decode cX12_mostPieces 97 = .ok (.iload 4, 2) := by decide +kernel
theorem dX12_mostPieces_99 : decode cX12_mostPieces 99 = .ok (.istore_n 3, 1) := by decide +kernel
theorem dX12_mostPieces_100 : decode cX12_mostPieces 100 = .ok (.iinc 4 1, 3) := by decide +kernel
theorem dX12_mostPieces_103 : decode cX12_mostPieces 103 = .ok (.goto (-60), 3) := by decide +kernel
theorem dX12_mostPieces_106 : decode cX12_mostPieces 106 = .ok (.iload_n 3, 1) := by decide +kernel
theorem dX12_mostPieces_107 : decode cX12_mostPieces 107 = .ok (.ireturn, 1) := by decide +kernel
theorem dX12_gladdest_0 : decode cX12_gladdest 0 = .ok (.aload_n 0, 1) := by decide +kernel
theorem dX12_gladdest_1 : decode cX12_gladdest 1 = .ok (.iconst 0, 1) := by decide +kernel
theorem dX12_gladdest_2 : decode cX12_gladdest 2 = .ok (.putfield 1, 3) := by decide +kernel
theorem dX12_gladdest_5 : decode cX12_gladdest 5 = .ok (.aload_n 0, 1) := by decide +kernel
theorem dX12_gladdest_6 : decode cX12_gladdest 6 = .ok (.iload_n 1, 1) := by decide +kernel
theorem dX12_gladdest_7 : decode cX12_gladdest 7 = .ok (.i2l, 1) := by decide +kernel
theorem dX12_gladdest_8 : decode cX12_gladdest 8 = .ok (.invokevirtual 248, 3) := by decide +kernel
theorem dX12_gladdest_11 : decode cX12_gladdest 11 = .ok (.ifCond .ne 6, 3) := by decide +kernel
theorem dX12_gladdest_14 : decode cX12_gladdest 14 = .ok (.ldc 247, 2) := by decide +kernel
theorem dX12_gladdest_16 : decode cX12_gladdest 16 = .ok (.ireturn, 1) := by decide +kernel
theorem dX12_gladdest_17 : decode cX12_gladdest 17 = .ok (.iconst (-1), 1) := by decide +kernel
theorem dX12_gladdest_18 : decode cX12_gladdest 18 = .ok (.istore_n 2, 1) := by decide +kernel
theorem dX12_gladdest_19 : decode cX12_gladdest 19 = .ok (.ldc_w 273, 3) := by decide +kernel
theorem dX12_gladdest_22 : decode cX12_gladdest 22 = .ok (.istore_n 3, 1) := by decide +kernel
theorem dX12_gladdest_23 : decode cX12_gladdest 23 = .ok (.iconst 0, 1) := by decide +kernel
theorem dX12_gladdest_24 : decode cX12_gladdest 24 = .ok (.istore 4, 2) := by decide +kernel
theorem dX12_gladdest_26 : decode cX12_gladdest 26 = .ok (.iload 4, 2) := by decide +kernel
theorem dX12_gladdest_28 : decode cX12_gladdest 28 = .ok (.aload_n 0, 1) := by decide +kernel
theorem dX12_gladdest_29 : decode cX12_gladdest 29 = .ok (.getfield 13, 3) := by decide +kernel
theorem dX12_gladdest_32 : decode cX12_gladdest 32 = .ok (.iconst 2, 1) := by decide +kernel
theorem dX12_gladdest_33 : decode cX12_gladdest 33 = .ok (.iaload, 1) := by decide +kernel
theorem dX12_gladdest_34 : decode cX12_gladdest 34 = .ok (.if_icmp .ge 39, 3) := by decide +kernel
theorem dX12_gladdest_37 : decode cX12_gladdest 37 = .ok (.aload_n 0, 1) := by decide +kernel
theorem dX12_gladdest_38 : decode cX12_gladdest 38 = .ok (.iload 4, 2) := by decide +kernel
theorem dX12_gladdest_40 : decode cX12_gladdest 40 = .ok (.iload_n 1, 1) := by decide +kernel
theorem dX12_gladdest_41 : decode cX12_gladdest 41 = .ok (.iconst 0, 1) := by decide +kernel
theorem dX12_gladdest_42 : decode cX12_gladdest 42 = .ok (.invokevirtual 323, 3) := by decide +kernel
theorem dX12_gladdest_45 : decode cX12_gladdest 45 = .ok (.ifCond .eq 22, 3) := by decide +kernel
theorem dX12_gladdest_48 : decode cX12_gladdest 48 = .ok (.aload_n 0, 1) := by decide +kernel
theorem dX12_gladdest_49 : decode cX12_gladdest 49 = .ok (.getfield 290, 3) := by decide +kernel
theorem dX12_gladdest_52 : decode cX12_gladdest 52 = .ok (.iload_n 3, 1) := by decide +kernel
theorem dX12_gladdest_53 : decode cX12_gladdest 53 = .ok (.if_icmp .gt 6, 3) := by decide +kernel
theorem dX12_gladdest_56 : decode cX12_gladdest 56 = .ok (.goto 11, 3) := by decide +kernel
theorem dX12_gladdest_59 : decode cX12_gladdest 59 = .ok (.iload 4, 2) := by decide +kernel
theorem dX12_gladdest_61 : decode cX12_gladdest 61 = .ok (.istore_n 2, 1) := by decide +kernel
theorem dX12_gladdest_62 : decode cX12_gladdest 62 = .ok (.aload_n 0, 1) := by decide +kernel
theorem dX12_gladdest_63 : decode cX12_gladdest 63 = .ok (.getfield 290, 3) := by decide +kernel
theorem dX12_gladdest_66 : decode cX12_gladdest 66 = .ok (.istore_n 3, 1) := by decide +kernel
theorem dX12_gladdest_67 : decode cX12_gladdest 67 = .ok (.iinc 4 1, 3) := by decide +kernel
theorem dX12_gladdest_70 : decode cX12_gladdest 70 = .ok (.goto (-44), 3) := by decide +kernel
theorem dX12_gladdest_73 : decode cX12_gladdest 73 = .ok (.iload_n 2, 1) := by decide +kernel
theorem dX12_gladdest_74 : decode cX12_gladdest 74 = .ok (.ireturn, 1) := by decide +kernel
theorem dX12_lends_0 : decode cX12_lends 0 = .ok (.aload_n 0, 1) := by decide +kernel
theorem dX12_lends_1 : decode cX12_lends 1 = .ok (.iconst 0, 1) := by decide +kernel
theorem dX12_lends_2 : decode cX12_lends 2 = .ok (.putfield 1, 3) := by decide +kernel
theorem dX12_lends_5 : decode cX12_lends 5 = .ok (.aload_n 0, 1) := by decide +kernel
theorem dX12_lends_6 : decode cX12_lends 6 = .ok (.iload_n 1, 1) := by decide +kernel
theorem dX12_lends_7 : decode cX12_lends 7 = .ok (.iload_n 2, 1) := by decide +kernel
theorem dX12_lends_8 : decode cX12_lends 8 = .ok (.invokevirtual 413, 3) := by decide +kernel
theorem dX12_lends_11 : decode cX12_lends 11 = .ok (.ifCond .eq 18, 3) := by decide +kernel
theorem dX12_lends_14 : decode cX12_lends 14 = .ok (.aload_n 0, 1) := by decide +kernel
theorem dX12_lends_15 : decode cX12_lends 15 = .ok (.iload_n 3, 1) := by decide +kernel
theorem dX12_lends_16 : decode cX12_lends 16 = .ok (.iload 4, 2) := by decide +kernel
theorem dX12_lends_18 : decode cX12_lends 18 = .ok (.invokevirtual 413, 3) := by decide +kernel
theorem dX12_lends_21 : decode cX12_lends 21 = .ok (.ifCond .eq 8, 3) := by decide +kernel
theorem dX12_lends_24 : decode cX12_lends 24 = .ok (.iload_n 1, 1) := by decide +kernel
theorem dX12_lends_25 : decode cX12_lends 25 = .ok (.iload_n 3, 1) := by decide +kernel
theorem dX12_lends_26 : decode cX12_lends 26 = .ok (.if_icmp .ne 6, 3) := by decide +kernel
theorem dX12_lends_29 : decode cX12_lends 29 = .ok (.ldc 247, 2) := by decide +kernel
theorem dX12_lends_31 : decode cX12_lends 31 = .ok (.ireturn, 1) := by decide +kernel
theorem dX12_lends_32 : decode cX12_lends 32 = .ok (.aload_n 0, 1) := by decide +kernel
theorem dX12_lends_33 : decode cX12_lends 33 = .ok (.iload_n 1, 1) := by decide +kernel
theorem dX12_lends_34 : decode cX12_lends 34 = .ok (.iload_n 2, 1) := by decide +kernel
theorem dX12_lends_35 : decode cX12_lends 35 = .ok (.iconst 0, 1) := by decide +kernel
theorem dX12_lends_36 : decode cX12_lends 36 = .ok (.invokevirtual 323, 3) := by decide +kernel
theorem dX12_lends_39 : decode cX12_lends 39 = .ok (.pop, 1) := by decide +kernel
theorem dX12_lends_40 : decode cX12_lends 40 = .ok (.iconst 0, 1) := by decide +kernel
theorem dX12_lends_41 : decode cX12_lends 41 = .ok (.istore 5, 2) := by decide +kernel
theorem dX12_lends_43 : decode cX12_lends 43 = .ok (.iload 5, 2) := by decide +kernel
theorem dX12_lends_45 : decode cX12_lends 45 = .ok (.bipush 41, 2) := by decide +kernel
theorem dX12_lends_47 : decode cX12_lends 47 = .ok (.if_icmp .ge 31, 3) := by decide +kernel
theorem dX12_lends_50 : decode cX12_lends 50 = .ok (.aload_n 0, 1) := by decide +kernel
theorem dX12_lends_51 : decode cX12_lends 51 = .ok (.getfield 70, 3) := by decide +kernel
theorem dX12_lends_54 : decode cX12_lends 54 = .ok (.iload 5, 2) := by decide +kernel
theorem dX12_lends_56 : decode cX12_lends 56 = .ok (.aload_n 0, 1) := by decide +kernel
theorem dX12_lends_57 : decode cX12_lends 57 = .ok (.getfield 39, 3) := by decide +kernel
theorem dX12_lends_60 : decode cX12_lends 60 = .ok (.iconst 0, 1) := by decide +kernel
theorem dX12_lends_61 : decode cX12_lends 61 = .ok (.iconst 0, 1) := by decide +kernel
theorem dX12_lends_62 : decode cX12_lends 62 = .ok (.iload 5, 2) := by decide +kernel
theorem dX12_lends_64 : decode cX12_lends 64 = .ok (.bipush 20, 2) := by decide +kernel
theorem dX12_lends_66 : decode cX12_lends 66 = .ok (.isub, 1) := by decide +kernel
theorem dX12_lends_67 : decode cX12_lends 67 = .ok (.invokestatic 262, 3) := by decide +kernel
theorem dX12_lends_70 : decode cX12_lends 70 = .ok (.iaload, 1) := by decide +kernel
theorem dX12_lends_71 : decode cX12_lends 71 = .ok (.iastore, 1) := by decide +kernel
theorem dX12_lends_72 : decode cX12_lends 72 = .ok (.iinc 5 1, 3) := by decide +kernel
theorem dX12_lends_75 : decode cX12_lends 75 = .ok (.goto (-32), 3) := by decide +kernel
theorem dX12_lends_78 : decode cX12_lends 78 = .ok (.aload_n 0, 1) := by decide +kernel
theorem dX12_lends_79 : decode cX12_lends 79 = .ok (.iload_n 3, 1) := by decide +kernel
theorem dX12_lends_80 : decode cX12_lends 80 = .ok (.iload 4, 2) := by decide +kernel
theorem dX12_lends_82 : decode cX12_lends 82 = .ok (.iconst 0, 1) := by decide +kernel
theorem dX12_lends_83 : decode cX12_lends 83 = .ok (.invokevirtual 323, 3) := by decide +kernel
theorem dX12_lends_86 : decode cX12_lends 86 = .ok (.pop, 1) := by decide +kernel
theorem dX12_lends_87 : decode cX12_lends 87 = .ok (.iconst (-1), 1) := by decide +kernel
theorem dX12_lends_88 : decode cX12_lends 88 = .ok (.istore 5, 2) := by decide +kernel
theorem dX12_lends_90 : decode cX12_lends 90 = .ok (.ldc_w 273, 3) := by decide +kernel
theorem dX12_lends_93 : decode cX12_lends 93 = .ok (.istore 6, 2) := by decide +kernel
theorem dX12_lends_95 : decode cX12_lends 95 = .ok (.iconst 0, 1) := by decide +kernel
theorem dX12_lends_96 : decode cX12_lends 96 = .ok (.istore 7, 2) := by decide +kernel
theorem dX12_lends_98 : decode cX12_lends 98 = .ok (.iload 7, 2) := by decide +kernel
theorem dX12_lends_100 : decode cX12_lends 100 = .ok (.bipush 40, 2) := by decide +kernel
theorem dX12_lends_102 : decode cX12_lends 102 = .ok (.if_icmp .gt 141, 3) := by decide +kernel
theorem dX12_lends_105 : decode cX12_lends 105 = .ok (.aload_n 0, 1) := by decide +kernel
theorem dX12_lends_106 : decode cX12_lends 106 = .ok (.getfield 13, 3) := by decide +kernel
theorem dX12_lends_109 : decode cX12_lends 109 = .ok (.bipush 77, 2) := by decide +kernel
theorem dX12_lends_111 : decode cX12_lends 111 = .ok (.iload_n 1, 1) := by decide +kernel
theorem dX12_lends_112 : decode cX12_lends 112 = .ok (.iadd, 1) := by decide +kernel
theorem dX12_lends_113 : decode cX12_lends 113 = .ok (.iaload, 1) := by decide +kernel
theorem dX12_lends_114 : decode cX12_lends 114 = .ok (.iload 7, 2) := by decide +kernel
theorem dX12_lends_116 : decode cX12_lends 116 = .ok (.isub, 1) := by decide +kernel
theorem dX12_lends_117 : decode cX12_lends 117 = .ok (.istore 8, 2) := by decide +kernel
theorem dX12_lends_119 : decode cX12_lends 119 = .ok (.aload_n 0, 1) := by decide +kernel
theorem dX12_lends_120 : decode cX12_lends 120 = .ok (.getfield 13, 3) := by decide +kernel
theorem dX12_lends_123 : decode cX12_lends 123 = .ok (.bipush 77, 2) := by decide +kernel
theorem dX12_lends_125 : decode cX12_lends 125 = .ok (.iload_n 3, 1) := by decide +kernel
theorem dX12_lends_126 : decode cX12_lends 126 = .ok (.iadd, 1) := by decide +kernel
theorem dX12_lends_127 : decode cX12_lends 127 = .ok (.iaload, 1) := by decide +kernel
theorem dX12_lends_128 : decode cX12_lends 128 = .ok (.iload 7, 2) := by decide +kernel
theorem dX12_lends_130 : decode cX12_lends 130 = .ok (.iadd, 1) := by decide +kernel
theorem dX12_lends_131 : decode cX12_lends 131 = .ok (.istore 9, 2) := by decide +kernel
theorem dX12_lends_133 : decode cX12_lends 133 = .ok (.iload 8, 2) := by decide +kernel
theorem dX12_lends_135 : decode cX12_lends 135 = .ok (.i2l, 1) := by decide +kernel
theorem dX12_lends_136 : decode cX12_lends 136 = .ok (.invokestatic 240, 3) := by decide +kernel
theorem dX12_lends_139 : decode cX12_lends 139 = .ok (.ifCond .eq 98, 3) := by decide +kernel
theorem dX12_lends_142 : decode cX12_lends 142 = .ok (.iload 9, 2) := by decide +kernel
theorem dX12_lends_144 : decode cX12_lends 144 = .ok (.i2l, 1) := by decide +kernel
theorem dX12_lends_145 : decode cX12_lends 145 = .ok (.invokestatic 240, 3) := by decide +kernel
theorem dX12_lends_148 : decode cX12_lends 148 = .ok (.ifCond .eq 89, 3) := by decide +kernel
theorem dX12_lends_151 : decode cX12_lends 151 = .ok (.aload_n 0, 1) := by decide +kernel
theorem dX12_lends_152 : decode cX12_lends 152 = .ok (.getfield 70, 3) := by decide +kernel
theorem dX12_lends_155 : decode cX12_lends 155 = .ok (.iload 8, 2) := by decide +kernel
theorem dX12_lends_157 : decode cX12_lends 157 = .ok (.bipush 20, 2) := by decide +kernel
theorem dX12_lends_159 : decode cX12_lends 159 = .ok (.iadd, 1) := by decide +kernel
theorem dX12_lends_160 : decode cX12_lends 160 = .ok (.iaload, 1) := by decide +kernel
theorem dX12_lends_161 : decode cX12_lends 161 = .ok (.ldc_w 273, 3) := by decide +kernel
theorem dX12_lends_164 : decode cX12_lends 164 = .ok (.if_icmp .eq 73, 3) := by decide +kernel
theorem dX12_lends_167 : decode cX12_lends 167 = .ok (.aload_n 0, 1) := by decide +kernel
theorem dX12_lends_168 : decode cX12_lends 168 = .ok (.getfield 39, 3) := by decide +kernel
theorem dX12_lends_171 : decode cX12_lends 171 = .ok (.iconst 0, 1) := by decide +kernel
theorem dX12_lends_172 : decode cX12_lends 172 = .ok (.iconst 0, 1) := by decide +kernel
theorem dX12_lends_173 : decode cX12_lends 173 = .ok (.iload 9, 2) := by decide +kernel
theorem dX12_lends_175 : decode cX12_lends 175 = .ok (.invokestatic 262, 3) := by decide +kernel
theorem dX12_lends_178 : decode cX12_lends 178 = .ok (.iaload, 1) := by decide +kernel
theorem dX12_lends_179 : decode cX12_lends 179 = .ok (.ldc_w 273, 3) := by decide +kernel
theorem dX12_lends_182 : decode cX12_lends 182 = .ok (.if_icmp .ne 6, 3) := by decide +kernel
theorem dX12_lends_185 : decode cX12_lends 185 = .ok (.goto 52, 3) := by decide +kernel
theorem dX12_lends_188 : decode cX12_lends 188 = .ok (.aload_n 0, 1) := by decide +kernel
theorem dX12_lends_189 : decode cX12_lends 189 = .ok (.getfield 70, 3) := by decide +kernel
theorem dX12_lends_192 : decode cX12_lends 192 = .ok (.iload 8, 2) := by decide +kernel
theorem dX12_lends_194 : decode cX12_lends 194 = .ok (.bipush 20, 2) := by decide +kernel
theorem dX12_lends_196 : decode cX12_lends 196 = .ok (.iadd, 1) := by decide +kernel
theorem dX12_lends_197 : decode cX12_lends 197 = .ok (.iaload, 1) := by decide +kernel
theorem dX12_lends_198 : decode cX12_lends 198 = .ok (.aload_n 0, 1) := by decide +kernel
theorem dX12_lends_199 : decode cX12_lends 199 = .ok (.getfield 39, 3) := by decide +kernel
theorem dX12_lends_202 : decode cX12_lends 202 = .ok (.iconst 0, 1) := by decide +kernel
theorem dX12_lends_203 : decode cX12_lends 203 = .ok (.iconst 0, 1) := by decide +kernel
theorem dX12_lends_204 : decode cX12_lends 204 = .ok (.iload 9, 2) := by decide +kernel
theorem dX12_lends_206 : decode cX12_lends 206 = .ok (.invokestatic 262, 3) := by decide +kernel
theorem dX12_lends_209 : decode cX12_lends 209 = .ok (.iaload, 1) := by decide +kernel
theorem dX12_lends_210 : decode cX12_lends 210 = .ok (.iadd, 1) := by decide +kernel
theorem dX12_lends_211 : decode cX12_lends 211 = .ok (.istore 10, 2) := by decide +kernel
theorem dX12_lends_213 : decode cX12_lends 213 = .ok (.iload 5, 2) := by decide +kernel
theorem dX12_lends_215 : decode cX12_lends 215 = .ok (.iconst (-1), 1) := by decide +kernel
theorem dX12_lends_216 : decode cX12_lends 216 = .ok (.if_icmp .eq 13, 3) := by decide +kernel
theorem dX12_lends_219 : decode cX12_lends 219 = .ok (.iload 10, 2) := by decide +kernel
theorem dX12_lends_221 : decode cX12_lends 221 = .ok (.iload 6, 2) := by decide +kernel
theorem dX12_lends_223 : decode cX12_lends 223 = .ok (.if_icmp .gt 6, 3) := by decide +kernel
theorem dX12_lends_226 : decode cX12_lends 226 = .ok (.goto 11, 3) := by decide +kernel
theorem dX12_lends_229 : decode cX12_lends 229 = .ok (.iload 7, 2) := by decide +kernel
theorem dX12_lends_231 : decode cX12_lends 231 = .ok (.istore 5, 2) := by decide +kernel
theorem dX12_lends_233 : decode cX12_lends 233 = .ok (.iload 10, 2) := by decide +kernel
theorem dX12_lends_235 : decode cX12_lends 235 = .ok (.istore 6, 2) := by decide +kernel
theorem dX12_lends_237 : decode cX12_lends 237 = .ok (.iinc 7 1, 3) := by decide +kernel
theorem dX12_lends_240 : decode cX12_lends 240 = .ok (.goto (-142), 3) := by decide +kernel
theorem dX12_lends_243 : decode cX12_lends 243 = .ok (.iload 5, 2) := by decide +kernel
theorem dX12_lends_245 : decode cX12_lends 245 = .ok (.ireturn, 1) := by decide +kernel
theorem dX12_reply_0 : decode cX12_reply 0 = .ok (.aload_n 0, 1) := by decide +kernel
theorem dX12_reply_1 : decode cX12_reply 1 = .ok (.iconst 0, 1) := by decide +kernel
theorem dX12_reply_2 : decode cX12_reply 2 = .ok (.putfield 1, 3) := by decide +kernel
theorem dX12_reply_5 : decode cX12_reply 5 = .ok (.aload_n 0, 1) := by decide +kernel
theorem dX12_reply_6 : decode cX12_reply 6 = .ok (.iload_n 1, 1) := by decide +kernel
theorem dX12_reply_7 : decode cX12_reply 7 = .ok (.i2l, 1) := by decide +kernel
theorem dX12_reply_8 : decode cX12_reply 8 = .ok (.invokevirtual 244, 3) := by decide +kernel
theorem dX12_reply_11 : decode cX12_reply 11 = .ok (.ifCond .eq 35, 3) := by decide +kernel
theorem dX12_reply_14 : decode cX12_reply 14 = .ok (.aload_n 0, 1) := by decide +kernel
theorem dX12_reply_15 : decode cX12_reply 15 = .ok (.iload_n 2, 1) := by decide +kernel
theorem dX12_reply_16 : decode cX12_reply 16 = .ok (.i2l, 1) := by decide +kernel
theorem dX12_reply_17 : decode cX12_reply 17 = .ok (.invokevirtual 244, 3) := by decide +kernel
theorem dX12_reply_20 : decode cX12_reply 20 = .ok (.ifCond .eq 26, 3) := by decide +kernel
theorem dX12_reply_23 : decode cX12_reply 23 = .ok (.iload_n 1, 1) := by decide +kernel
theorem dX12_reply_24 : decode cX12_reply 24 = .ok (.iload_n 2, 1) := by decide +kernel
theorem dX12_reply_25 : decode cX12_reply 25 = .ok (.if_icmp .eq 21, 3) := by decide +kernel
theorem dX12_reply_28 : decode cX12_reply 28 = .ok (.aload_n 0, 1) := by decide +kernel
theorem dX12_reply_29 : decode cX12_reply 29 = .ok (.iload_n 3, 1) := by decide +kernel
theorem dX12_reply_30 : decode cX12_reply 30 = .ok (.i2l, 1) := by decide +kernel
theorem dX12_reply_31 : decode cX12_reply 31 = .ok (.invokevirtual 248, 3) := by decide +kernel
theorem dX12_reply_34 : decode cX12_reply 34 = .ok (.ifCond .eq 12, 3) := by decide +kernel
theorem dX12_reply_37 : decode cX12_reply 37 = .ok (.iload 4, 2) := by decide +kernel
theorem dX12_reply_39 : decode cX12_reply 39 = .ok (.iconst 1, 1) := by decide +kernel
theorem dX12_reply_40 : decode cX12_reply 40 = .ok (.invokestatic 416, 3) := by decide +kernel
theorem dX12_reply_43 : decode cX12_reply 43 = .ok (.ifCond .ne 6, 3) := by decide +kernel
theorem dX12_reply_46 : decode cX12_reply 46 = .ok (.ldc 247, 2) := by decide +kernel
theorem dX12_reply_48 : decode cX12_reply 48 = .ok (.ireturn, 1) := by decide +kernel
theorem dX12_reply_49 : decode cX12_reply 49 = .ok (.aload_n 0, 1) := by decide +kernel
theorem dX12_reply_50 : decode cX12_reply 50 = .ok (.iload_n 1, 1) := by decide +kernel
theorem dX12_reply_51 : decode cX12_reply 51 = .ok (.iload_n 3, 1) := by decide +kernel
theorem dX12_reply_52 : decode cX12_reply 52 = .ok (.iconst 0, 1) := by decide +kernel
theorem dX12_reply_53 : decode cX12_reply 53 = .ok (.invokevirtual 323, 3) := by decide +kernel
theorem dX12_reply_56 : decode cX12_reply 56 = .ok (.ifCond .ne 7, 3) := by decide +kernel
theorem dX12_reply_59 : decode cX12_reply 59 = .ok (.ldc_w 422, 3) := by decide +kernel
theorem dX12_reply_62 : decode cX12_reply 62 = .ok (.ireturn, 1) := by decide +kernel
theorem dX12_reply_63 : decode cX12_reply 63 = .ok (.iconst 0, 1) := by decide +kernel
theorem dX12_reply_64 : decode cX12_reply 64 = .ok (.istore 5, 2) := by decide +kernel
theorem dX12_reply_66 : decode cX12_reply 66 = .ok (.iload 5, 2) := by decide +kernel
theorem dX12_reply_68 : decode cX12_reply 68 = .ok (.aload_n 0, 1) := by decide +kernel
theorem dX12_reply_69 : decode cX12_reply 69 = .ok (.getfield 13, 3) := by decide +kernel
theorem dX12_reply_72 : decode cX12_reply 72 = .ok (.bipush 10, 2) := by decide +kernel
theorem dX12_reply_74 : decode cX12_reply 74 = .ok (.iload_n 3, 1) := by decide +kernel
theorem dX12_reply_75 : decode cX12_reply 75 = .ok (.iadd, 1) := by decide +kernel
theorem dX12_reply_76 : decode cX12_reply 76 = .ok (.iaload, 1) := by decide +kernel
theorem dX12_reply_77 : decode cX12_reply 77 = .ok (.if_icmp .ge 23, 3) := by decide +kernel
theorem dX12_reply_80 : decode cX12_reply 80 = .ok (.aload_n 0, 1) := by decide +kernel
theorem dX12_reply_81 : decode cX12_reply 81 = .ok (.getfield 45, 3) := by decide +kernel
theorem dX12_reply_84 : decode cX12_reply 84 = .ok (.iload 5, 2) := by decide +kernel
theorem dX12_reply_86 : decode cX12_reply 86 = .ok (.aload_n 0, 1) := by decide +kernel
theorem dX12_reply_87 : decode cX12_reply 87 = .ok (.getfield 42, 3) := by decide +kernel
theorem dX12_reply_90 : decode cX12_reply 90 = .ok (.iload 5, 2) := by decide +kernel
theorem dX12_reply_92 : decode cX12_reply 92 = .ok (.iaload, 1) := by decide +kernel
theorem dX12_reply_93 : decode cX12_reply 93 = .ok (.iastore, 1) := by decide +kernel
theorem dX12_reply_94 : decode cX12_reply 94 = .ok (.iinc 5 1, 3) := by decide +kernel
theorem dX12_reply_97 : decode cX12_reply 97 = .ok (.goto (-31), 3) := by decide +kernel
theorem dX12_reply_100 : decode cX12_reply 100 = .ok (.aload_n 0, 1) := by decide +kernel
theorem dX12_reply_101 : decode cX12_reply 101 = .ok (.iconst 1, 1) := by decide +kernel
theorem dX12_reply_102 : decode cX12_reply 102 = .ok (.putfield 274, 3) := by decide +kernel
theorem dX12_reply_105 : decode cX12_reply 105 = .ok (.aload_n 0, 1) := by decide +kernel
theorem dX12_reply_106 : decode cX12_reply 106 = .ok (.iload_n 2, 1) := by decide +kernel
theorem dX12_reply_107 : decode cX12_reply 107 = .ok (.iload_n 3, 1) := by decide +kernel
theorem dX12_reply_108 : decode cX12_reply 108 = .ok (.invokevirtual 299, 3) := by decide +kernel
theorem dX12_reply_111 : decode cX12_reply 111 = .ok (.aload_n 0, 1) := by decide +kernel
theorem dX12_reply_112 : decode cX12_reply 112 = .ok (.aload_n 0, 1) := by decide +kernel
theorem dX12_reply_113 : decode cX12_reply 113 = .ok (.getfield 13, 3) := by decide +kernel
theorem dX12_reply_116 : decode cX12_reply 116 = .ok (.bipush 10, 2) := by decide +kernel
theorem dX12_reply_118 : decode cX12_reply 118 = .ok (.iload_n 3, 1) := by decide +kernel
theorem dX12_reply_119 : decode cX12_reply 119 = .ok (.iadd, 1) := by decide +kernel
theorem dX12_reply_120 : decode cX12_reply 120 = .ok (.iaload, 1) := by decide +kernel
theorem dX12_reply_121 : decode cX12_reply 121 = .ok (.iconst 0, 1) := by decide +kernel
theorem dX12_reply_122 : decode cX12_reply 122 = .ok (.invokevirtual 303, 3) := by decide +kernel
theorem dX12_reply_125 : decode cX12_reply 125 = .ok (.aload_n 0, 1) := by decide +kernel
theorem dX12_reply_126 : decode cX12_reply 126 = .ok (.aload_n 0, 1) := by decide +kernel
theorem dX12_reply_127 : decode cX12_reply 127 = .ok (.aload_n 0, 1) := by decide +kernel
theorem dX12_reply_128 : decode cX12_reply 128 = .ok (.getfield 13, 3) := by decide +kernel
theorem dX12_reply_131 : decode cX12_reply 131 = .ok (.bipush 10, 2) := by decide +kernel
theorem dX12_reply_133 : decode cX12_reply 133 = .ok (.iload_n 3, 1) := by decide +kernel
theorem dX12_reply_134 : decode cX12_reply 134 = .ok (.iadd, 1) := by decide +kernel
theorem dX12_reply_135 : decode cX12_reply 135 = .ok (.iaload, 1) := by decide +kernel
theorem dX12_reply_136 : decode cX12_reply 136 = .ok (.aload_n 0, 1) := by decide +kernel
theorem dX12_reply_137 : decode cX12_reply 137 = .ok (.getfield 13, 3) := by decide +kernel
theorem dX12_reply_140 : decode cX12_reply 140 = .ok (.bipush 77, 2) := by decide +kernel
theorem dX12_reply_142 : decode cX12_reply 142 = .ok (.iload_n 2, 1) := by decide +kernel
theorem dX12_reply_143 : decode cX12_reply 143 = .ok (.iadd, 1) := by decide +kernel
theorem dX12_reply_144 : decode cX12_reply 144 = .ok (.iaload, 1) := by decide +kernel
theorem dX12_reply_145 : decode cX12_reply 145 = .ok (.invokevirtual 306, 3) := by decide +kernel
theorem dX12_reply_148 : decode cX12_reply 148 = .ok (.iload_n 3, 1) := by decide +kernel
theorem dX12_reply_149 : decode cX12_reply 149 = .ok (.iload 4, 2) := by decide +kernel
theorem dX12_reply_151 : decode cX12_reply 151 = .ok (.invokevirtual 423, 3) := by decide +kernel
theorem dX12_reply_154 : decode cX12_reply 154 = .ok (.ireturn, 1) := by decide +kernel
theorem dX12_noHeard_0 : decode cX12_noHeard 0 = .ok (.iload_n 1, 1) := by decide +kernel
theorem dX12_noHeard_1 : decode cX12_noHeard 1 = .ok (.i2l, 1) := by decide +kernel
theorem dX12_noHeard_2 : decode cX12_noHeard 2 = .ok (.lconst 0, 1) := by decide +kernel
theorem dX12_noHeard_3 : decode cX12_noHeard 3 = .ok (.ldc2_w 385, 3) := by decide +kernel
theorem dX12_noHeard_6 : decode cX12_noHeard 6 = .ok (.invokestatic 152, 3) := by decide +kernel
theorem dX12_noHeard_9 : decode cX12_noHeard 9 = .ok (.ifCond .eq 12, 3) := by decide +kernel
theorem dX12_noHeard_12 : decode cX12_noHeard 12 = .ok (.aload_n 0, 1) := by decide +kernel
theorem dX12_noHeard_13 : decode cX12_noHeard 13 = .ok (.iload_n 2, 1) := by decide +kernel
theorem dX12_noHeard_14 : decode cX12_noHeard 14 = .ok (.iload_n 3, 1) := by decide +kernel
theorem dX12_noHeard_15 : decode cX12_noHeard 15 = .ok (.invokevirtual 413, 3) := by decide +kernel
theorem dX12_noHeard_18 : decode cX12_noHeard 18 = .ok (.ifCond .ne 6, 3) := by decide +kernel
theorem dX12_noHeard_21 : decode cX12_noHeard 21 = .ok (.ldc 247, 2) := by decide +kernel
theorem dX12_noHeard_23 : decode cX12_noHeard 23 = .ok (.ireturn, 1) := by decide +kernel
theorem dX12_noHeard_24 : decode cX12_noHeard 24 = .ok (.aload_n 0, 1) := by decide +kernel
theorem dX12_noHeard_25 : decode cX12_noHeard 25 = .ok (.iload_n 1, 1) := by decide +kernel
theorem dX12_noHeard_26 : decode cX12_noHeard 26 = .ok (.invokevirtual 388, 3) := by decide +kernel
theorem dX12_noHeard_29 : decode cX12_noHeard 29 = .ok (.istore 4, 2) := by decide +kernel
theorem dX12_noHeard_31 : decode cX12_noHeard 31 = .ok (.iload 4, 2) := by decide +kernel
theorem dX12_noHeard_33 : decode cX12_noHeard 33 = .ok (.ifCond .eq 6, 3) := by decide +kernel
theorem dX12_noHeard_36 : decode cX12_noHeard 36 = .ok (.iload 4, 2) := by decide +kernel
theorem dX12_noHeard_38 : decode cX12_noHeard 38 = .ok (.ireturn, 1) := by decide +kernel
theorem dX12_noHeard_39 : decode cX12_noHeard 39 = .ok (.aload_n 0, 1) := by decide +kernel
theorem dX12_noHeard_40 : decode cX12_noHeard 40 = .ok (.getfield 79, 3) := by decide +kernel
theorem dX12_noHeard_43 : decode cX12_noHeard 43 = .ok (.iload_n 1, 1) := by decide +kernel
theorem dX12_noHeard_44 : decode cX12_noHeard 44 = .ok (.iaload, 1) := by decide +kernel
theorem dX12_noHeard_45 : decode cX12_noHeard 45 = .ok (.aload_n 0, 1) := by decide +kernel
theorem dX12_noHeard_46 : decode cX12_noHeard 46 = .ok (.getfield 13, 3) := by decide +kernel
theorem dX12_noHeard_49 : decode cX12_noHeard 49 = .ok (.bipush 10, 2) := by decide +kernel
theorem dX12_noHeard_51 : decode cX12_noHeard 51 = .ok (.iload_n 3, 1) := by decide +kernel
theorem dX12_noHeard_52 : decode cX12_noHeard 52 = .ok (.iadd, 1) := by decide +kernel
theorem dX12_noHeard_53 : decode cX12_noHeard 53 = .ok (.iaload, 1) := by decide +kernel
theorem dX12_noHeard_54 : decode cX12_noHeard 54 = .ok (.if_icmp .eq 7, 3) := by decide +kernel
theorem dX12_noHeard_57 : decode cX12_noHeard 57 = .ok (.ldc_w 473, 3) := by decide +kernel
theorem dX12_noHeard_60 : decode cX12_noHeard 60 = .ok (.ireturn, 1) := by decide +kernel
theorem dX12_noHeard_61 : decode cX12_noHeard 61 = .ok (.iconst 0, 1) := by decide +kernel
theorem dX12_noHeard_62 : decode cX12_noHeard 62 = .ok (.istore 5, 2) := by decide +kernel
theorem dX12_noHeard_64 : decode cX12_noHeard 64 = .ok (.iload 5, 2) := by decide +kernel
theorem dX12_noHeard_66 : decode cX12_noHeard 66 = .ok (.aload_n 0, 1) := by decide +kernel
theorem dX12_noHeard_67 : decode cX12_noHeard 67 = .ok (.getfield 79, 3) := by decide +kernel
theorem dX12_noHeard_70 : decode cX12_noHeard 70 = .ok (.iload_n 1, 1) := by decide +kernel
theorem dX12_noHeard_71 : decode cX12_noHeard 71 = .ok (.iaload, 1) := by decide +kernel
theorem dX12_noHeard_72 : decode cX12_noHeard 72 = .ok (.if_icmp .ge 43, 3) := by decide +kernel
theorem dX12_noHeard_75 : decode cX12_noHeard 75 = .ok (.aload_n 0, 1) := by decide +kernel
theorem dX12_noHeard_76 : decode cX12_noHeard 76 = .ok (.getfield 82, 3) := by decide +kernel
theorem dX12_noHeard_79 : decode cX12_noHeard 79 = .ok (.bipush 40, 2) := by decide +kernel
theorem dX12_noHeard_81 : decode cX12_noHeard 81 = .ok (.iload_n 1, 1) := by decide +kernel
theorem dX12_noHeard_82 : decode cX12_noHeard 82 = .ok (.imul, 1) := by decide +kernel
theorem dX12_noHeard_83 : decode cX12_noHeard 83 = .ok (.iload 5, 2) := by decide +kernel
theorem dX12_noHeard_85 : decode cX12_noHeard 85 = .ok (.iadd, 1) := by decide +kernel
theorem dX12_noHeard_86 : decode cX12_noHeard 86 = .ok (.laload, 1) := by decide +kernel
theorem dX12_noHeard_87 : decode cX12_noHeard 87 = .ok (.lstore 6, 2) := by decide +kernel
theorem dX12_noHeard_89 : decode cX12_noHeard 89 = .ok (.lload 6, 2) := by decide +kernel
theorem dX12_noHeard_91 : decode cX12_noHeard 91 = .ok (.invokestatic 255, 3) := by decide +kernel
theorem dX12_noHeard_94 : decode cX12_noHeard 94 = .ok (.ifCond .ne 15, 3) := by decide +kernel
theorem dX12_noHeard_97 : decode cX12_noHeard 97 = .ok (.lload 6, 2) := by decide +kernel
theorem dX12_noHeard_99 : decode cX12_noHeard 99 = .ok (.ldc2_w 355, 3) := by decide +kernel
theorem dX12_noHeard_102 : decode cX12_noHeard 102 = .ok (.lcmp, 1) := by decide +kernel
theorem dX12_noHeard_103 : decode cX12_noHeard 103 = .ok (.ifCond .eq 6, 3) := by decide +kernel
theorem dX12_noHeard_106 : decode cX12_noHeard 106 = .ok (.ldc 206, 2) := by decide +kernel
theorem dX12_noHeard_108 : decode cX12_noHeard 108 = .ok (.ireturn, 1) := by decide +kernel
theorem dX12_noHeard_109 : decode cX12_noHeard 109 = .ok (.iinc 5 1, 3) := by decide +kernel
theorem dX12_noHeard_112 : decode cX12_noHeard 112 = .ok (.goto (-48), 3) := by decide +kernel
theorem dX12_noHeard_115 : decode cX12_noHeard 115 = .ok (.iconst 0, 1) := by decide +kernel
theorem dX12_noHeard_116 : decode cX12_noHeard 116 = .ok (.ireturn, 1) := by decide +kernel
theorem dX12_isEnd_0 : decode cX12_isEnd 0 = .ok (.iload_n 0, 1) := by decide +kernel
theorem dX12_isEnd_1 : decode cX12_isEnd 1 = .ok (.i2l, 1) := by decide +kernel
theorem dX12_isEnd_2 : decode cX12_isEnd 2 = .ok (.invokestatic 240, 3) := by decide +kernel
theorem dX12_isEnd_5 : decode cX12_isEnd 5 = .ok (.ifCond .ne 9, 3) := by decide +kernel
theorem dX12_isEnd_8 : decode cX12_isEnd 8 = .ok (.iload_n 0, 1) := by decide +kernel
theorem dX12_isEnd_9 : decode cX12_isEnd 9 = .ok (.bipush 99, 2) := by decide +kernel
theorem dX12_isEnd_11 : decode cX12_isEnd 11 = .ok (.if_icmp .ne 7, 3) := by decide +kernel
theorem dX12_isEnd_14 : decode cX12_isEnd 14 = .ok (.iconst 1, 1) := by decide +kernel
theorem dX12_isEnd_15 : decode cX12_isEnd 15 = .ok (.goto 4, 3) := by decide +kernel
theorem dX12_isEnd_18 : decode cX12_isEnd 18 = .ok (.iconst 0, 1) := by decide +kernel
theorem dX12_isEnd_19 : decode cX12_isEnd 19 = .ok (.ireturn, 1) := by decide +kernel
theorem dX12_heardBy_0 : decode cX12_heardBy 0 = .ok (.aload_n 0, 1) := by decide +kernel
theorem dX12_heardBy_1 : decode cX12_heardBy 1 = .ok (.invokevirtual 296, 3) := by decide +kernel
theorem dX12_heardBy_4 : decode cX12_heardBy 4 = .ok (.iconst 0, 1) := by decide +kernel
theorem dX12_heardBy_5 : decode cX12_heardBy 5 = .ok (.istore 7, 2) := by decide +kernel
theorem dX12_heardBy_7 : decode cX12_heardBy 7 = .ok (.iload 7, 2) := by decide +kernel
theorem dX12_heardBy_9 : decode cX12_heardBy 9 = .ok (.aload_n 0, 1) := by decide +kernel
theorem dX12_heardBy_10 : decode cX12_heardBy 10 = .ok (.getfield 79, 3) := by decide +kernel
theorem dX12_heardBy_13 : decode cX12_heardBy 13 = .ok (.iload_n 1, 1) := by decide +kernel
theorem dX12_heardBy_14 : decode cX12_heardBy 14 = .ok (.iaload, 1) := by decide +kernel
theorem dX12_heardBy_15 : decode cX12_heardBy 15 = .ok (.if_icmp .ge 29, 3) := by decide +kernel
theorem dX12_heardBy_18 : decode cX12_heardBy 18 = .ok (.aload_n 0, 1) := by decide +kernel
theorem dX12_heardBy_19 : decode cX12_heardBy 19 = .ok (.getfield 45, 3) := by decide +kernel
theorem dX12_heardBy_22 : decode cX12_heardBy 22 = .ok (.iload 7, 2) := by decide +kernel
theorem dX12_heardBy_24 : decode cX12_heardBy 24 = .ok (.aload_n 0, 1) := by decide +kernel
theorem dX12_heardBy_25 : decode cX12_heardBy 25 = .ok (.getfield 82, 3) := by decide +kernel
theorem dX12_heardBy_28 : decode cX12_heardBy 28 = .ok (.bipush 40, 2) := by decide +kernel
theorem dX12_heardBy_30 : decode cX12_heardBy 30 = .ok (.iload_n 1, 1) := by decide +kernel
theorem dX12_heardBy_31 : decode cX12_heardBy 31 = .ok (.imul, 1) := by decide +kernel
theorem dX12_heardBy_32 : decode cX12_heardBy 32 = .ok (.iload 7, 2) := by decide +kernel
theorem dX12_heardBy_34 : decode cX12_heardBy 34 = .ok (.iadd, 1) := by decide +kernel
theorem dX12_heardBy_35 : decode cX12_heardBy 35 = .ok (.laload, 1) := by decide +kernel
theorem dX12_heardBy_36 : decode cX12_heardBy 36 = .ok (.l2i, 1) := by decide +kernel
theorem dX12_heardBy_37 : decode cX12_heardBy 37 = .ok (.iastore, 1) := by decide +kernel
theorem dX12_heardBy_38 : decode cX12_heardBy 38 = .ok (.iinc 7 1, 3) := by decide +kernel
theorem dX12_heardBy_41 : decode cX12_heardBy 41 = .ok (.goto (-34), 3) := by decide +kernel
theorem dX12_heardBy_44 : decode cX12_heardBy 44 = .ok (.iload 6, 2) := by decide +kernel
theorem dX12_heardBy_46 : decode cX12_heardBy 46 = .ok (.bipush 9, 2) := by decide +kernel
theorem dX12_heardBy_48 : decode cX12_heardBy 48 = .ok (.if_icmp .eq 38, 3) := by decide +kernel
theorem dX12_heardBy_51 : decode cX12_heardBy 51 = .ok (.aload_n 0, 1) := by decide +kernel
theorem dX12_heardBy_52 : decode cX12_heardBy 52 = .ok (.getfield 45, 3) := by decide +kernel
theorem dX12_heardBy_55 : decode cX12_heardBy 55 = .ok (.iload 5, 2) := by decide +kernel
theorem dX12_heardBy_57 : decode cX12_heardBy 57 = .ok (.iaload, 1) := by decide +kernel
theorem dX12_heardBy_58 : decode cX12_heardBy 58 = .ok (.bipush 9, 2) := by decide +kernel
theorem dX12_heardBy_60 : decode cX12_heardBy 60 = .ok (.if_icmp .eq 17, 3) := by decide +kernel
theorem dX12_heardBy_63 : decode cX12_heardBy 63 = .ok (.aload_n 0, 1) := by decide +kernel
theorem dX12_heardBy_64 : decode cX12_heardBy 64 = .ok (.getfield 45, 3) := by decide +kernel
theorem dX12_heardBy_67 : decode cX12_heardBy 67 = .ok (.iload 5, 2) := by decide +kernel
theorem dX12_heardBy_69 : decode cX12_heardBy 69 = .ok (.iaload, 1) := by decide +kernel
theorem dX12_heardBy_70 : decode cX12_heardBy 70 = .ok (.iload 6, 2) := by decide +kernel
theorem dX12_heardBy_72 : decode cX12_heardBy 72 = .ok (.if_icmp .eq 5, 3) := by decide +kernel
theorem dX12_heardBy_75 : decode cX12_heardBy 75 = .ok (.lconst 0, 1) := by decide +kernel
theorem dX12_heardBy_76 : decode cX12_heardBy 76 = .ok (.lreturn, 1) := by decide +kernel
theorem dX12_heardBy_77 : decode cX12_heardBy 77 = .ok (.aload_n 0, 1) := by decide +kernel
theorem dX12_heardBy_78 : decode cX12_heardBy 78 = .ok (.getfield 45, 3) := by decide +kernel
theorem dX12_heardBy_81 : decode cX12_heardBy 81 = .ok (.iload 5, 2) := by decide +kernel
theorem dX12_heardBy_83 : decode cX12_heardBy 83 = .ok (.iload 6, 2) := by decide +kernel
theorem dX12_heardBy_85 : decode cX12_heardBy 85 = .ok (.iastore, 1) := by decide +kernel
theorem dX12_heardBy_86 : decode cX12_heardBy 86 = .ok (.aload_n 0, 1) := by decide +kernel
theorem dX12_heardBy_87 : decode cX12_heardBy 87 = .ok (.iload_n 2, 1) := by decide +kernel
theorem dX12_heardBy_88 : decode cX12_heardBy 88 = .ok (.iload_n 3, 1) := by decide +kernel
theorem dX12_heardBy_89 : decode cX12_heardBy 89 = .ok (.invokevirtual 440, 3) := by decide +kernel
theorem dX12_heardBy_92 : decode cX12_heardBy 92 = .ok (.iload 4, 2) := by decide +kernel
theorem dX12_heardBy_94 : decode cX12_heardBy 94 = .ok (.bipush 99, 2) := by decide +kernel
theorem dX12_heardBy_96 : decode cX12_heardBy 96 = .ok (.if_icmp .eq 10, 3) := by decide +kernel
theorem dX12_heardBy_99 : decode cX12_heardBy 99 = .ok (.aload_n 0, 1) := by decide +kernel
theorem dX12_heardBy_100 : decode cX12_heardBy 100 = .ok (.iload 4, 2) := by decide +kernel
theorem dX12_heardBy_102 : decode cX12_heardBy 102 = .ok (.invokevirtual 443, 3) := by decide +kernel
theorem dX12_heardBy_105 : decode cX12_heardBy 105 = .ok (.lreturn, 1) := by decide +kernel
theorem dX12_heardBy_106 : decode cX12_heardBy 106 = .ok (.lconst 0, 1) := by decide +kernel
theorem dX12_heardBy_107 : decode cX12_heardBy 107 = .ok (.lstore 7, 2) := by decide +kernel
theorem dX12_heardBy_109 : decode cX12_heardBy 109 = .ok (.bipush (-20), 2) := by decide +kernel
theorem dX12_heardBy_111 : decode cX12_heardBy 111 = .ok (.istore 9, 2) := by decide +kernel
theorem dX12_heardBy_113 : decode cX12_heardBy 113 = .ok (.iload 9, 2) := by decide +kernel
theorem dX12_heardBy_115 : decode cX12_heardBy 115 = .ok (.bipush 20, 2) := by decide +kernel
theorem dX12_heardBy_117 : decode cX12_heardBy 117 = .ok (.if_icmp .gt 20, 3) := by decide +kernel
theorem dX12_heardBy_120 : decode cX12_heardBy 120 = .ok (.lload 7, 2) := by decide +kernel
theorem dX12_heardBy_122 : decode cX12_heardBy 122 = .ok (.aload_n 0, 1) := by decide +kernel
theorem dX12_heardBy_123 : decode cX12_heardBy 123 = .ok (.iload 9, 2) := by decide +kernel
theorem dX12_heardBy_125 : decode cX12_heardBy 125 = .ok (.invokevirtual 443, 3) := by decide +kernel
theorem dX12_heardBy_128 : decode cX12_heardBy 128 = .ok (.ladd, 1) := by decide +kernel
theorem dX12_heardBy_129 : decode cX12_heardBy 129 = .ok (.lstore 7, 2) := by decide +kernel
theorem dX12_heardBy_131 : decode cX12_heardBy 131 = .ok (.iinc 9 1, 3) := by decide +kernel
theorem dX12_heardBy_134 : decode cX12_heardBy 134 = .ok (.goto (-21), 3) := by decide +kernel
theorem dX12_heardBy_137 : decode cX12_heardBy 137 = .ok (.lload 7, 2) := by decide +kernel
theorem dX12_heardBy_139 : decode cX12_heardBy 139 = .ok (.lreturn, 1) := by decide +kernel
theorem dX12_heard_0 : decode cX12_heard 0 = .ok (.aload_n 0, 1) := by decide +kernel
theorem dX12_heard_1 : decode cX12_heard 1 = .ok (.iconst 0, 1) := by decide +kernel
theorem dX12_heard_2 : decode cX12_heard 2 = .ok (.putfield 1, 3) := by decide +kernel
theorem dX12_heard_5 : decode cX12_heard 5 = .ok (.aload_n 0, 1) := by decide +kernel
theorem dX12_heard_6 : decode cX12_heard 6 = .ok (.iload_n 1, 1) := by decide +kernel
theorem dX12_heard_7 : decode cX12_heard 7 = .ok (.iload_n 2, 1) := by decide +kernel
theorem dX12_heard_8 : decode cX12_heard 8 = .ok (.iload_n 3, 1) := by decide +kernel
theorem dX12_heard_9 : decode cX12_heard 9 = .ok (.invokevirtual 474, 3) := by decide +kernel
theorem dX12_heard_12 : decode cX12_heard 12 = .ok (.istore 5, 2) := by decide +kernel
theorem dX12_heard_14 : decode cX12_heard 14 = .ok (.iload 5, 2) := by decide +kernel
theorem dX12_heard_16 : decode cX12_heard 16 = .ok (.ifCond .eq 7, 3) := by decide +kernel
theorem dX12_heard_19 : decode cX12_heard 19 = .ok (.iload 5, 2) := by decide +kernel
theorem dX12_heard_21 : decode cX12_heard 21 = .ok (.i2l, 1) := by decide +kernel
theorem dX12_heard_22 : decode cX12_heard 22 = .ok (.lreturn, 1) := by decide +kernel
theorem dX12_heard_23 : decode cX12_heard 23 = .ok (.iload 4, 2) := by decide +kernel
theorem dX12_heard_25 : decode cX12_heard 25 = .ok (.invokestatic 477, 3) := by decide +kernel
theorem dX12_heard_28 : decode cX12_heard 28 = .ok (.ifCond .eq 18, 3) := by decide +kernel
theorem dX12_heard_31 : decode cX12_heard 31 = .ok (.aload_n 0, 1) := by decide +kernel
theorem dX12_heard_32 : decode cX12_heard 32 = .ok (.iload_n 1, 1) := by decide +kernel
theorem dX12_heard_33 : decode cX12_heard 33 = .ok (.iload_n 2, 1) := by decide +kernel
theorem dX12_heard_34 : decode cX12_heard 34 = .ok (.iload_n 3, 1) := by decide +kernel
theorem dX12_heard_35 : decode cX12_heard 35 = .ok (.iload 4, 2) := by decide +kernel
theorem dX12_heard_37 : decode cX12_heard 37 = .ok (.iconst 0, 1) := by decide +kernel
theorem dX12_heard_38 : decode cX12_heard 38 = .ok (.bipush 9, 2) := by decide +kernel
theorem dX12_heard_40 : decode cX12_heard 40 = .ok (.invokevirtual 480, 3) := by decide +kernel
theorem dX12_heard_43 : decode cX12_heard 43 = .ok (.goto 6, 3) := by decide +kernel
theorem dX12_heard_46 : decode cX12_heard 46 = .ok (.ldc2_w 438, 3) := by decide +kernel
theorem dX12_heard_49 : decode cX12_heard 49 = .ok (.lreturn, 1) := by decide +kernel
theorem dX12_sure_0 : decode cX12_sure 0 = .ok (.aload_n 0, 1) := by decide +kernel
theorem dX12_sure_1 : decode cX12_sure 1 = .ok (.iconst 0, 1) := by decide +kernel
theorem dX12_sure_2 : decode cX12_sure 2 = .ok (.putfield 1, 3) := by decide +kernel
theorem dX12_sure_5 : decode cX12_sure 5 = .ok (.aload_n 0, 1) := by decide +kernel
theorem dX12_sure_6 : decode cX12_sure 6 = .ok (.iload_n 1, 1) := by decide +kernel
theorem dX12_sure_7 : decode cX12_sure 7 = .ok (.iload_n 2, 1) := by decide +kernel
theorem dX12_sure_8 : decode cX12_sure 8 = .ok (.iload_n 3, 1) := by decide +kernel
theorem dX12_sure_9 : decode cX12_sure 9 = .ok (.invokevirtual 474, 3) := by decide +kernel
theorem dX12_sure_12 : decode cX12_sure 12 = .ok (.istore 6, 2) := by decide +kernel
theorem dX12_sure_14 : decode cX12_sure 14 = .ok (.iload 6, 2) := by decide +kernel
theorem dX12_sure_16 : decode cX12_sure 16 = .ok (.ifCond .eq 6, 3) := by decide +kernel
theorem dX12_sure_19 : decode cX12_sure 19 = .ok (.iload 6, 2) := by decide +kernel
theorem dX12_sure_21 : decode cX12_sure 21 = .ok (.ireturn, 1) := by decide +kernel
theorem dX12_sure_22 : decode cX12_sure 22 = .ok (.iload 4, 2) := by decide +kernel
theorem dX12_sure_24 : decode cX12_sure 24 = .ok (.invokestatic 477, 3) := by decide +kernel
theorem dX12_sure_27 : decode cX12_sure 27 = .ok (.ifCond .ne 6, 3) := by decide +kernel
theorem dX12_sure_30 : decode cX12_sure 30 = .ok (.ldc 206, 2) := by decide +kernel
theorem dX12_sure_32 : decode cX12_sure 32 = .ok (.ireturn, 1) := by decide +kernel
theorem dX12_sure_33 : decode cX12_sure 33 = .ok (.aload_n 0, 1) := by decide +kernel
theorem dX12_sure_34 : decode cX12_sure 34 = .ok (.iload_n 3, 1) := by decide +kernel
theorem dX12_sure_35 : decode cX12_sure 35 = .ok (.iload 5, 2) := by decide +kernel
theorem dX12_sure_37 : decode cX12_sure 37 = .ok (.invokevirtual 251, 3) := by decide +kernel
theorem dX12_sure_40 : decode cX12_sure 40 = .ok (.ifCond .ne 7, 3) := by decide +kernel
theorem dX12_sure_43 : decode cX12_sure 43 = .ok (.ldc_w 484, 3) := by decide +kernel
theorem dX12_sure_46 : decode cX12_sure 46 = .ok (.ireturn, 1) := by decide +kernel
theorem dX12_sure_47 : decode cX12_sure 47 = .ok (.aload_n 0, 1) := by decide +kernel
theorem dX12_sure_48 : decode cX12_sure 48 = .ok (.iload_n 1, 1) := by decide +kernel
theorem dX12_sure_49 : decode cX12_sure 49 = .ok (.iload_n 2, 1) := by decide +kernel
theorem dX12_sure_50 : decode cX12_sure 50 = .ok (.iload_n 3, 1) := by decide +kernel
theorem dX12_sure_51 : decode cX12_sure 51 = .ok (.iload 4, 2) := by decide +kernel
theorem dX12_sure_53 : decode cX12_sure 53 = .ok (.iconst 0, 1) := by decide +kernel
theorem dX12_sure_54 : decode cX12_sure 54 = .ok (.bipush 9, 2) := by decide +kernel
theorem dX12_sure_56 : decode cX12_sure 56 = .ok (.invokevirtual 480, 3) := by decide +kernel
theorem dX12_sure_59 : decode cX12_sure 59 = .ok (.lstore 7, 2) := by decide +kernel
theorem dX12_sure_61 : decode cX12_sure 61 = .ok (.bipush (-2), 2) := by decide +kernel
theorem dX12_sure_63 : decode cX12_sure 63 = .ok (.istore 9, 2) := by decide +kernel
theorem dX12_sure_65 : decode cX12_sure 65 = .ok (.iload 9, 2) := by decide +kernel
theorem dX12_sure_67 : decode cX12_sure 67 = .ok (.iconst 2, 1) := by decide +kernel
theorem dX12_sure_68 : decode cX12_sure 68 = .ok (.if_icmp .gt 38, 3) := by decide +kernel
theorem dX12_sure_71 : decode cX12_sure 71 = .ok (.lload 7, 2) := by decide +kernel
theorem dX12_sure_73 : decode cX12_sure 73 = .ok (.lconst 0, 1) := by decide +kernel
theorem dX12_sure_74 : decode cX12_sure 74 = .ok (.lcmp, 1) := by decide +kernel
theorem dX12_sure_75 : decode cX12_sure 75 = .ok (.ifCond .le 31, 3) := by decide +kernel
theorem dX12_sure_78 : decode cX12_sure 78 = .ok (.aload_n 0, 1) := by decide +kernel
theorem dX12_sure_79 : decode cX12_sure 79 = .ok (.iload_n 1, 1) := by decide +kernel
theorem dX12_sure_80 : decode cX12_sure 80 = .ok (.iload_n 2, 1) := by decide +kernel
theorem dX12_sure_81 : decode cX12_sure 81 = .ok (.iload_n 3, 1) := by decide +kernel
theorem dX12_sure_82 : decode cX12_sure 82 = .ok (.iload 4, 2) := by decide +kernel
theorem dX12_sure_84 : decode cX12_sure 84 = .ok (.iload 5, 2) := by decide +kernel
theorem dX12_sure_86 : decode cX12_sure 86 = .ok (.iload 9, 2) := by decide +kernel
theorem dX12_sure_88 : decode cX12_sure 88 = .ok (.invokevirtual 480, 3) := by decide +kernel
theorem dX12_sure_91 : decode cX12_sure 91 = .ok (.lload 7, 2) := by decide +kernel
theorem dX12_sure_93 : decode cX12_sure 93 = .ok (.lcmp, 1) := by decide +kernel
theorem dX12_sure_94 : decode cX12_sure 94 = .ok (.ifCond .ne 6, 3) := by decide +kernel
theorem dX12_sure_97 : decode cX12_sure 97 = .ok (.iload 9, 2) := by decide +kernel
theorem dX12_sure_99 : decode cX12_sure 99 = .ok (.ireturn, 1) := by decide +kernel
theorem dX12_sure_100 : decode cX12_sure 100 = .ok (.iinc 9 1, 3) := by decide +kernel
theorem dX12_sure_103 : decode cX12_sure 103 = .ok (.goto (-38), 3) := by decide +kernel
theorem dX12_sure_106 : decode cX12_sure 106 = .ok (.bipush 9, 2) := by decide +kernel
theorem dX12_sure_108 : decode cX12_sure 108 = .ok (.ireturn, 1) := by decide +kernel
theorem dX12_tempersOf_0 : decode cX12_tempersOf 0 = .ok (.aload_n 0, 1) := by decide +kernel
theorem dX12_tempersOf_1 : decode cX12_tempersOf 1 = .ok (.getfield 13, 3) := by decide +kernel
theorem dX12_tempersOf_4 : decode cX12_tempersOf 4 = .ok (.bipush 87, 2) := by decide +kernel
theorem dX12_tempersOf_6 : decode cX12_tempersOf 6 = .ok (.iload_n 2, 1) := by decide +kernel
theorem dX12_tempersOf_7 : decode cX12_tempersOf 7 = .ok (.iadd, 1) := by decide +kernel
theorem dX12_tempersOf_8 : decode cX12_tempersOf 8 = .ok (.iaload, 1) := by decide +kernel
theorem dX12_tempersOf_9 : decode cX12_tempersOf 9 = .ok (.istore 4, 2) := by decide +kernel
theorem dX12_tempersOf_11 : decode cX12_tempersOf 11 = .ok (.iconst 0, 1) := by decide +kernel
theorem dX12_tempersOf_12 : decode cX12_tempersOf 12 = .ok (.istore 5, 2) := by decide +kernel
theorem dX12_tempersOf_14 : decode cX12_tempersOf 14 = .ok (.iconst 0, 1) := by decide +kernel
theorem dX12_tempersOf_15 : decode cX12_tempersOf 15 = .ok (.istore 6, 2) := by decide +kernel
theorem dX12_tempersOf_17 : decode cX12_tempersOf 17 = .ok (.iload 6, 2) := by decide +kernel
theorem dX12_tempersOf_19 : decode cX12_tempersOf 19 = .ok (.bipush 10, 2) := by decide +kernel
theorem dX12_tempersOf_21 : decode cX12_tempersOf 21 = .ok (.if_icmp .ge 132, 3) := by decide +kernel
theorem dX12_tempersOf_24 : decode cX12_tempersOf 24 = .ok (.aload_n 0, 1) := by decide +kernel
theorem dX12_tempersOf_25 : decode cX12_tempersOf 25 = .ok (.getfield 13, 3) := by decide +kernel
theorem dX12_tempersOf_28 : decode cX12_tempersOf 28 = .ok (.bipush 87, 2) := by decide +kernel
theorem dX12_tempersOf_30 : decode cX12_tempersOf 30 = .ok (.iload_n 2, 1) := by decide +kernel
theorem dX12_tempersOf_31 : decode cX12_tempersOf 31 = .ok (.iadd, 1) := by decide +kernel
theorem dX12_tempersOf_32 : decode cX12_tempersOf 32 = .ok (.iload 6, 2) := by decide +kernel
theorem dX12_tempersOf_34 : decode cX12_tempersOf 34 = .ok (.iastore, 1) := by decide +kernel
theorem dX12_tempersOf_35 : decode cX12_tempersOf 35 = .ok (.aload_n 0, 1) := by decide +kernel
theorem dX12_tempersOf_36 : decode cX12_tempersOf 36 = .ok (.iload_n 2, 1) := by decide +kernel
theorem dX12_tempersOf_37 : decode cX12_tempersOf 37 = .ok (.iload_n 3, 1) := by decide +kernel
theorem dX12_tempersOf_38 : decode cX12_tempersOf 38 = .ok (.invokevirtual 335, 3) := by decide +kernel
theorem dX12_tempersOf_41 : decode cX12_tempersOf 41 = .ok (.aload_n 0, 1) := by decide +kernel
theorem dX12_tempersOf_42 : decode cX12_tempersOf 42 = .ok (.getfield 309, 3) := by decide +kernel
theorem dX12_tempersOf_45 : decode cX12_tempersOf 45 = .ok (.iconst (-1), 1) := by decide +kernel
theorem dX12_tempersOf_46 : decode cX12_tempersOf 46 = .ok (.if_icmp .ne 7, 3) := by decide +kernel
theorem dX12_tempersOf_49 : decode cX12_tempersOf 49 = .ok (.iconst 1, 1) := by decide +kernel
theorem dX12_tempersOf_50 : decode cX12_tempersOf 50 = .ok (.goto 4, 3) := by decide +kernel
theorem dX12_tempersOf_53 : decode cX12_tempersOf 53 = .ok (.iconst 0, 1) := by decide +kernel
theorem dX12_tempersOf_54 : decode cX12_tempersOf 54 = .ok (.istore 7, 2) := by decide +kernel
theorem dX12_tempersOf_56 : decode cX12_tempersOf 56 = .ok (.iconst 0, 1) := by decide +kernel
theorem dX12_tempersOf_57 : decode cX12_tempersOf 57 = .ok (.istore 8, 2) := by decide +kernel
theorem dX12_tempersOf_59 : decode cX12_tempersOf 59 = .ok (.iload 8, 2) := by decide +kernel
theorem dX12_tempersOf_61 : decode cX12_tempersOf 61 = .ok (.aload_n 0, 1) := by decide +kernel
theorem dX12_tempersOf_62 : decode cX12_tempersOf 62 = .ok (.getfield 79, 3) := by decide +kernel
theorem dX12_tempersOf_65 : decode cX12_tempersOf 65 = .ok (.iload_n 1, 1) := by decide +kernel
theorem dX12_tempersOf_66 : decode cX12_tempersOf 66 = .ok (.iaload, 1) := by decide +kernel
theorem dX12_tempersOf_67 : decode cX12_tempersOf 67 = .ok (.if_icmp .ge 62, 3) := by decide +kernel
theorem dX12_tempersOf_70 : decode cX12_tempersOf 70 = .ok (.iload 7, 2) := by decide +kernel
theorem dX12_tempersOf_72 : decode cX12_tempersOf 72 = .ok (.aload_n 0, 1) := by decide +kernel
theorem dX12_tempersOf_73 : decode cX12_tempersOf 73 = .ok (.getfield 82, 3) := by decide +kernel
theorem dX12_tempersOf_76 : decode cX12_tempersOf 76 = .ok (.bipush 40, 2) := by decide +kernel
theorem dX12_tempersOf_78 : decode cX12_tempersOf 78 = .ok (.iload_n 1, 1) := by decide +kernel
theorem dX12_tempersOf_79 : decode cX12_tempersOf 79 = .ok (.imul, 1) := by decide +kernel
theorem dX12_tempersOf_80 : decode cX12_tempersOf 80 = .ok (.iload 8, 2) := by decide +kernel
theorem dX12_tempersOf_82 : decode cX12_tempersOf 82 = .ok (.iadd, 1) := by decide +kernel
theorem dX12_tempersOf_83 : decode cX12_tempersOf 83 = .ok (.laload, 1) := by decide +kernel
theorem dX12_tempersOf_84 : decode cX12_tempersOf 84 = .ok (.ldc2_w 355, 3) := by decide +kernel
theorem dX12_tempersOf_87 : decode cX12_tempersOf 87 = .ok (.lcmp, 1) := by decide +kernel
theorem dX12_tempersOf_88 : decode cX12_tempersOf 88 = .ok (.ifCond .eq 27, 3) := by decide +kernel
theorem dX12_tempersOf_91 : decode cX12_tempersOf 91 = .ok (.aload_n 0, 1) := by decide +kernel
theorem dX12_tempersOf_92 : decode cX12_tempersOf 92 = .ok (.getfield 82, 3) := by decide +kernel
theorem dX12_tempersOf_95 : decode cX12_tempersOf 95 = .ok (.bipush 40, 2) := by decide +kernel
theorem dX12_tempersOf_97 : decode cX12_tempersOf 97 = .ok (.iload_n 1, 1) := by decide +kernel
theorem dX12_tempersOf_98 : decode cX12_tempersOf 98 = .ok (.imul, 1) := by decide +kernel
theorem dX12_tempersOf_99 : decode cX12_tempersOf 99 = .ok (.iload 8, 2) := by decide +kernel
theorem dX12_tempersOf_101 : decode cX12_tempersOf 101 = .ok (.iadd, 1) := by decide +kernel
theorem dX12_tempersOf_102 : decode cX12_tempersOf 102 = .ok (.laload, 1) := by decide +kernel
theorem dX12_tempersOf_103 : decode cX12_tempersOf 103 = .ok (.aload_n 0, 1) := by decide +kernel
theorem dX12_tempersOf_104 : decode cX12_tempersOf 104 = .ok (.getfield 42, 3) := by decide +kernel
theorem dX12_tempersOf_107 : decode cX12_tempersOf 107 = .ok (.iload 8, 2) := by decide +kernel
theorem dX12_tempersOf_109 : decode cX12_tempersOf 109 = .ok (.iaload, 1) := by decide +kernel
theorem dX12_tempersOf_110 : decode cX12_tempersOf 110 = .ok (.i2l, 1) := by decide +kernel
theorem dX12_tempersOf_111 : decode cX12_tempersOf 111 = .ok (.lcmp, 1) := by decide +kernel
theorem dX12_tempersOf_112 : decode cX12_tempersOf 112 = .ok (.ifCond .ne 7, 3) := by decide +kernel
theorem dX12_tempersOf_115 : decode cX12_tempersOf 115 = .ok (.iconst 1, 1) := by decide +kernel
theorem dX12_tempersOf_116 : decode cX12_tempersOf 116 = .ok (.goto 4, 3) := by decide +kernel
theorem dX12_tempersOf_119 : decode cX12_tempersOf 119 = .ok (.iconst 0, 1) := by decide +kernel
theorem dX12_tempersOf_120 : decode cX12_tempersOf 120 = .ok (.iand, 1) := by decide +kernel
theorem dX12_tempersOf_121 : decode cX12_tempersOf 121 = .ok (.istore 7, 2) := by decide +kernel
theorem dX12_tempersOf_123 : decode cX12_tempersOf 123 = .ok (.iinc 8 1, 3) := by decide +kernel
theorem dX12_tempersOf_126 : decode cX12_tempersOf 126 = .ok (.goto (-67), 3) := by decide +kernel
theorem dX12_tempersOf_129 : decode cX12_tempersOf 129 = .ok (.iload 5, 2) := by decide +kernel
theorem dX12_tempersOf_131 : decode cX12_tempersOf 131 = .ok (.iload 7, 2) := by decide +kernel
theorem dX12_tempersOf_133 : decode cX12_tempersOf 133 = .ok (.ifCond .eq 10, 3) := by decide +kernel
theorem dX12_tempersOf_136 : decode cX12_tempersOf 136 = .ok (.iconst 1, 1) := by decide +kernel
theorem dX12_tempersOf_137 : decode cX12_tempersOf 137 = .ok (.iload 6, 2) := by decide +kernel
theorem dX12_tempersOf_139 : decode cX12_tempersOf 139 = .ok (.ishl, 1) := by decide +kernel
theorem dX12_tempersOf_140 : decode cX12_tempersOf 140 = .ok (.goto 4, 3) := by decide +kernel
theorem dX12_tempersOf_143 : decode cX12_tempersOf 143 = .ok (.iconst 0, 1) := by decide +kernel
theorem dX12_tempersOf_144 : decode cX12_tempersOf 144 = .ok (.ior, 1) := by decide +kernel
theorem dX12_tempersOf_145 : decode cX12_tempersOf 145 = .ok (.istore 5, 2) := by decide +kernel
theorem dX12_tempersOf_147 : decode cX12_tempersOf 147 = .ok (.iinc 6 1, 3) := by decide +kernel
theorem dX12_tempersOf_150 : decode cX12_tempersOf 150 = .ok (.goto (-133), 3) := by decide +kernel
theorem dX12_tempersOf_153 : decode cX12_tempersOf 153 = .ok (.aload_n 0, 1) := by decide +kernel
theorem dX12_tempersOf_154 : decode cX12_tempersOf 154 = .ok (.getfield 13, 3) := by decide +kernel
theorem dX12_tempersOf_157 : decode cX12_tempersOf 157 = .ok (.bipush 87, 2) := by decide +kernel
theorem dX12_tempersOf_159 : decode cX12_tempersOf 159 = .ok (.iload_n 2, 1) := by decide +kernel
theorem dX12_tempersOf_160 : decode cX12_tempersOf 160 = .ok (.iadd, 1) := by decide +kernel
theorem dX12_tempersOf_161 : decode cX12_tempersOf 161 = .ok (.iload 4, 2) := by decide +kernel
theorem dX12_tempersOf_163 : decode cX12_tempersOf 163 = .ok (.iastore, 1) := by decide +kernel
theorem dX12_tempersOf_164 : decode cX12_tempersOf 164 = .ok (.iload 5, 2) := by decide +kernel
theorem dX12_tempersOf_166 : decode cX12_tempersOf 166 = .ok (.ireturn, 1) := by decide +kernel
theorem dX12_tempers_0 : decode cX12_tempers 0 = .ok (.aload_n 0, 1) := by decide +kernel
theorem dX12_tempers_1 : decode cX12_tempers 1 = .ok (.iconst 0, 1) := by decide +kernel
theorem dX12_tempers_2 : decode cX12_tempers 2 = .ok (.putfield 1, 3) := by decide +kernel
theorem dX12_tempers_5 : decode cX12_tempers 5 = .ok (.aload_n 0, 1) := by decide +kernel
theorem dX12_tempers_6 : decode cX12_tempers 6 = .ok (.iload_n 1, 1) := by decide +kernel
theorem dX12_tempers_7 : decode cX12_tempers 7 = .ok (.iload_n 2, 1) := by decide +kernel
theorem dX12_tempers_8 : decode cX12_tempers 8 = .ok (.iload_n 3, 1) := by decide +kernel
theorem dX12_tempers_9 : decode cX12_tempers 9 = .ok (.invokevirtual 474, 3) := by decide +kernel
theorem dX12_tempers_12 : decode cX12_tempers 12 = .ok (.istore 4, 2) := by decide +kernel
theorem dX12_tempers_14 : decode cX12_tempers 14 = .ok (.iload 4, 2) := by decide +kernel
theorem dX12_tempers_16 : decode cX12_tempers 16 = .ok (.ifCond .eq 8, 3) := by decide +kernel
theorem dX12_tempers_19 : decode cX12_tempers 19 = .ok (.iload 4, 2) := by decide +kernel
theorem dX12_tempers_21 : decode cX12_tempers 21 = .ok (.goto 10, 3) := by decide +kernel
theorem dX12_tempers_24 : decode cX12_tempers 24 = .ok (.aload_n 0, 1) := by decide +kernel
theorem dX12_tempers_25 : decode cX12_tempers 25 = .ok (.iload_n 1, 1) := by decide +kernel
theorem dX12_tempers_26 : decode cX12_tempers 26 = .ok (.iload_n 2, 1) := by decide +kernel
theorem dX12_tempers_27 : decode cX12_tempers 27 = .ok (.iload_n 3, 1) := by decide +kernel
theorem dX12_tempers_28 : decode cX12_tempers 28 = .ok (.invokevirtual 485, 3) := by decide +kernel
theorem dX12_tempers_31 : decode cX12_tempers 31 = .ok (.ireturn, 1) := by decide +kernel
theorem dX12_mostOften_0 : decode cX12_mostOften 0 = .ok (.aload_n 0, 1) := by decide +kernel
theorem dX12_mostOften_1 : decode cX12_mostOften 1 = .ok (.getfield 13, 3) := by decide +kernel
theorem dX12_mostOften_4 : decode cX12_mostOften 4 = .ok (.bipush 87, 2) := by decide +kernel
theorem dX12_mostOften_6 : decode cX12_mostOften 6 = .ok (.iload_n 1, 1) := by decide +kernel
theorem dX12_mostOften_7 : decode cX12_mostOften 7 = .ok (.iadd, 1) := by decide +kernel
theorem dX12_mostOften_8 : decode cX12_mostOften 8 = .ok (.iaload, 1) := by decide +kernel
theorem dX12_mostOften_9 : decode cX12_mostOften 9 = .ok (.istore 4, 2) := by decide +kernel
theorem dX12_mostOften_11 : decode cX12_mostOften 11 = .ok (.iconst 0, 1) := by decide +kernel
theorem dX12_mostOften_12 : decode cX12_mostOften 12 = .ok (.istore 5, 2) := by decide +kernel
theorem dX12_mostOften_14 : decode cX12_mostOften 14 = .ok (.iconst 0, 1) := by decide +kernel
theorem dX12_mostOften_15 : decode cX12_mostOften 15 = .ok (.istore 6, 2) := by decide +kernel
theorem dX12_mostOften_17 : decode cX12_mostOften 17 = .ok (.iload 6, 2) := by decide +kernel
theorem dX12_mostOften_19 : decode cX12_mostOften 19 = .ok (.bipush 41, 2) := by decide +kernel
theorem dX12_mostOften_21 : decode cX12_mostOften 21 = .ok (.if_icmp .ge 17, 3) := by decide +kernel
theorem dX12_mostOften_24 : decode cX12_mostOften 24 = .ok (.aload_n 0, 1) := by decide +kernel
theorem dX12_mostOften_25 : decode cX12_mostOften 25 = .ok (.getfield 73, 3) := by decide +kernel
theorem dX12_mostOften_28 : decode cX12_mostOften 28 = .ok (.iload 6, 2) := by decide +kernel
theorem dX12_mostOften_30 : decode cX12_mostOften 30 = .ok (.iconst 0, 1) := by decide +kernel
theorem dX12_mostOften_31 : decode cX12_mostOften 31 = .ok (.iastore, 1) := by decide +kernel
theorem dX12_mostOften_32 : decode cX12_mostOften 32 = .ok (.iinc 6 1, 3) := by decide +kernel
theorem dX12_mostOften_35 : decode cX12_mostOften 35 = .ok (.goto (-18), 3) := by decide +kernel
theorem dX12_mostOften_38 : decode cX12_mostOften 38 = .ok (.iconst 0, 1) := by decide +kernel
theorem dX12_mostOften_39 : decode cX12_mostOften 39 = .ok (.istore 6, 2) := by decide +kernel
theorem dX12_mostOften_41 : decode cX12_mostOften 41 = .ok (.iload 6, 2) := by decide +kernel
theorem dX12_mostOften_43 : decode cX12_mostOften 43 = .ok (.bipush 10, 2) := by decide +kernel
theorem dX12_mostOften_45 : decode cX12_mostOften 45 = .ok (.if_icmp .ge 91, 3) := by decide +kernel
theorem dX12_mostOften_48 : decode cX12_mostOften 48 = .ok (.iload_n 3, 1) := by decide +kernel
theorem dX12_mostOften_49 : decode cX12_mostOften 49 = .ok (.i2l, 1) := by decide +kernel
theorem dX12_mostOften_50 : decode cX12_mostOften 50 = .ok (.iload 6, 2) := by decide +kernel
theorem dX12_mostOften_52 : decode cX12_mostOften 52 = .ok (.invokestatic 315, 3) := by decide +kernel
theorem dX12_mostOften_55 : decode cX12_mostOften 55 = .ok (.ifCond .ne 6, 3) := by decide +kernel
theorem dX12_mostOften_58 : decode cX12_mostOften 58 = .ok (.goto 72, 3) := by decide +kernel
theorem dX12_mostOften_61 : decode cX12_mostOften 61 = .ok (.aload_n 0, 1) := by decide +kernel
theorem dX12_mostOften_62 : decode cX12_mostOften 62 = .ok (.getfield 13, 3) := by decide +kernel
theorem dX12_mostOften_65 : decode cX12_mostOften 65 = .ok (.bipush 87, 2) := by decide +kernel
theorem dX12_mostOften_67 : decode cX12_mostOften 67 = .ok (.iload_n 1, 1) := by decide +kernel
theorem dX12_mostOften_68 : decode cX12_mostOften 68 = .ok (.iadd, 1) := by decide +kernel
theorem dX12_mostOften_69 : decode cX12_mostOften 69 = .ok (.iload 6, 2) := by decide +kernel
theorem dX12_mostOften_71 : decode cX12_mostOften 71 = .ok (.iastore, 1) := by decide +kernel
theorem dX12_mostOften_72 : decode cX12_mostOften 72 = .ok (.aload_n 0, 1) := by decide +kernel
theorem dX12_mostOften_73 : decode cX12_mostOften 73 = .ok (.iload_n 1, 1) := by decide +kernel
theorem dX12_mostOften_74 : decode cX12_mostOften 74 = .ok (.iload_n 2, 1) := by decide +kernel
theorem dX12_mostOften_75 : decode cX12_mostOften 75 = .ok (.invokevirtual 335, 3) := by decide +kernel
theorem dX12_mostOften_78 : decode cX12_mostOften 78 = .ok (.aload_n 0, 1) := by decide +kernel
theorem dX12_mostOften_79 : decode cX12_mostOften 79 = .ok (.getfield 73, 3) := by decide +kernel
theorem dX12_mostOften_82 : decode cX12_mostOften 82 = .ok (.aload_n 0, 1) := by decide +kernel
theorem dX12_mostOften_83 : decode cX12_mostOften 83 = .ok (.getfield 293, 3) := by decide +kernel
theorem dX12_mostOften_86 : decode cX12_mostOften 86 = .ok (.bipush 20, 2) := by decide +kernel
theorem dX12_mostOften_88 : decode cX12_mostOften 88 = .ok (.iadd, 1) := by decide +kernel
theorem dX12_mostOften_89 : decode cX12_mostOften 89 = .ok (.dup2, 1) := by decide +kernel
theorem dX12_mostOften_90 : decode cX12_mostOften 90 = .ok (.iaload, 1) := by decide +kernel
theorem dX12_mostOften_91 : decode cX12_mostOften 91 = .ok (.iconst 1, 1) := by decide +kernel
theorem dX12_mostOften_92 : decode cX12_mostOften 92 = .ok (.iadd, 1) := by decide +kernel
theorem dX12_mostOften_93 : decode cX12_mostOften 93 = .ok (.iastore, 1) := by decide +kernel
theorem dX12_mostOften_94 : decode cX12_mostOften 94 = .ok (.aload_n 0, 1) := by decide +kernel
theorem dX12_mostOften_95 : decode cX12_mostOften 95 = .ok (.getfield 73, 3) := by decide +kernel
theorem dX12_mostOften_98 : decode cX12_mostOften 98 = .ok (.aload_n 0, 1) := by decide +kernel
theorem dX12_mostOften_99 : decode cX12_mostOften 99 = .ok (.getfield 293, 3) := by decide +kernel
theorem dX12_mostOften_102 : decode cX12_mostOften 102 = .ok (.bipush 20, 2) := by decide +kernel
theorem dX12_mostOften_104 : decode cX12_mostOften 104 = .ok (.iadd, 1) := by decide +kernel
theorem dX12_mostOften_105 : decode cX12_mostOften 105 = .ok (.iaload, 1) := by decide +kernel
theorem dX12_mostOften_106 : decode cX12_mostOften 106 = .ok (.iload 5, 2) := by decide +kernel
theorem dX12_mostOften_108 : decode cX12_mostOften 108 = .ok (.if_icmp .le 18, 3) := by decide +kernel
theorem dX12_mostOften_111 : decode cX12_mostOften 111 = .ok (.aload_n 0, 1) := by decide +kernel
theorem dX12_mostOften_112 : decode cX12_mostOften 112 = .ok (.getfield 73, 3) := by decide +kernel
theorem dX12_mostOften_115 : decode cX12_mostOften 115 = .ok (.aload_n 0, 1) := by decide +kernel
theorem dX12_mostOften_116 : decode cX12_mostOften 116 = .ok (.getfield 293, 3) := by decide +kernel
theorem dX12_mostOften_119 : decode cX12_mostOften 119 = .ok (.bipush 20, 2) := by decide +kernel
theorem dX12_mostOften_121 : decode cX12_mostOften 121 = .ok (.iadd, 1) := by decide +kernel
theorem dX12_mostOften_122 : decode cX12_mostOften 122 = .ok (.iaload, 1) := by decide +kernel
theorem dX12_mostOften_123 : decode cX12_mostOften 123 = .ok (.goto 5, 3) := by decide +kernel
theorem dX12_mostOften_126 : decode cX12_mostOften 126 = .ok (.iload 5, 2) := by decide +kernel
theorem dX12_mostOften_128 : decode cX12_mostOften 128 = .ok (.istore 5, 2) := by decide +kernel
theorem dX12_mostOften_130 : decode cX12_mostOften 130 = .ok (.iinc 6 1, 3) := by decide +kernel
theorem dX12_mostOften_133 : decode cX12_mostOften 133 = .ok (.goto (-92), 3) := by decide +kernel
theorem dX12_mostOften_136 : decode cX12_mostOften 136 = .ok (.aload_n 0, 1) := by decide +kernel
theorem dX12_mostOften_137 : decode cX12_mostOften 137 = .ok (.getfield 13, 3) := by decide +kernel
theorem dX12_mostOften_140 : decode cX12_mostOften 140 = .ok (.bipush 87, 2) := by decide +kernel
theorem dX12_mostOften_142 : decode cX12_mostOften 142 = .ok (.iload_n 1, 1) := by decide +kernel
theorem dX12_mostOften_143 : decode cX12_mostOften 143 = .ok (.iadd, 1) := by decide +kernel
theorem dX12_mostOften_144 : decode cX12_mostOften 144 = .ok (.iload 4, 2) := by decide +kernel
theorem dX12_mostOften_146 : decode cX12_mostOften 146 = .ok (.iastore, 1) := by decide +kernel
theorem dX12_mostOften_147 : decode cX12_mostOften 147 = .ok (.iload 5, 2) := by decide +kernel
theorem dX12_mostOften_149 : decode cX12_mostOften 149 = .ok (.ireturn, 1) := by decide +kernel
theorem dX12_next_0 : decode cX12_next 0 = .ok (.aload_n 0, 1) := by decide +kernel
theorem dX12_next_1 : decode cX12_next 1 = .ok (.iconst 0, 1) := by decide +kernel
theorem dX12_next_2 : decode cX12_next 2 = .ok (.putfield 1, 3) := by decide +kernel
theorem dX12_next_5 : decode cX12_next 5 = .ok (.aload_n 0, 1) := by decide +kernel
theorem dX12_next_6 : decode cX12_next 6 = .ok (.iload_n 1, 1) := by decide +kernel
theorem dX12_next_7 : decode cX12_next 7 = .ok (.iload_n 2, 1) := by decide +kernel
theorem dX12_next_8 : decode cX12_next 8 = .ok (.iload_n 3, 1) := by decide +kernel
theorem dX12_next_9 : decode cX12_next 9 = .ok (.invokevirtual 474, 3) := by decide +kernel
theorem dX12_next_12 : decode cX12_next 12 = .ok (.istore 4, 2) := by decide +kernel
theorem dX12_next_14 : decode cX12_next 14 = .ok (.iload 4, 2) := by decide +kernel
theorem dX12_next_16 : decode cX12_next 16 = .ok (.ifCond .eq 6, 3) := by decide +kernel
theorem dX12_next_19 : decode cX12_next 19 = .ok (.iload 4, 2) := by decide +kernel
theorem dX12_next_21 : decode cX12_next 21 = .ok (.ireturn, 1) := by decide +kernel
theorem dX12_next_22 : decode cX12_next 22 = .ok (.aload_n 0, 1) := by decide +kernel
theorem dX12_next_23 : decode cX12_next 23 = .ok (.iload_n 1, 1) := by decide +kernel
theorem dX12_next_24 : decode cX12_next 24 = .ok (.iload_n 2, 1) := by decide +kernel
theorem dX12_next_25 : decode cX12_next 25 = .ok (.iload_n 3, 1) := by decide +kernel
theorem dX12_next_26 : decode cX12_next 26 = .ok (.invokevirtual 485, 3) := by decide +kernel
theorem dX12_next_29 : decode cX12_next 29 = .ok (.istore 5, 2) := by decide +kernel
theorem dX12_next_31 : decode cX12_next 31 = .ok (.iconst (-1), 1) := by decide +kernel
theorem dX12_next_32 : decode cX12_next 32 = .ok (.istore 6, 2) := by decide +kernel
theorem dX12_next_34 : decode cX12_next 34 = .ok (.bipush 11, 2) := by decide +kernel
theorem dX12_next_36 : decode cX12_next 36 = .ok (.istore 7, 2) := by decide +kernel
theorem dX12_next_38 : decode cX12_next 38 = .ok (.iconst 0, 1) := by decide +kernel
theorem dX12_next_39 : decode cX12_next 39 = .ok (.istore 8, 2) := by decide +kernel
theorem dX12_next_41 : decode cX12_next 41 = .ok (.iload 8, 2) := by decide +kernel
theorem dX12_next_43 : decode cX12_next 43 = .ok (.aload_n 0, 1) := by decide +kernel
theorem dX12_next_44 : decode cX12_next 44 = .ok (.getfield 13, 3) := by decide +kernel
theorem dX12_next_47 : decode cX12_next 47 = .ok (.iconst 1, 1) := by decide +kernel
theorem dX12_next_48 : decode cX12_next 48 = .ok (.iaload, 1) := by decide +kernel
theorem dX12_next_49 : decode cX12_next 49 = .ok (.if_icmp .ge 54, 3) := by decide +kernel
theorem dX12_next_52 : decode cX12_next 52 = .ok (.iload 5, 2) := by decide +kernel
theorem dX12_next_54 : decode cX12_next 54 = .ok (.ifCond .eq 49, 3) := by decide +kernel
theorem dX12_next_57 : decode cX12_next 57 = .ok (.iload 8, 2) := by decide +kernel
theorem dX12_next_59 : decode cX12_next 59 = .ok (.iload_n 3, 1) := by decide +kernel
theorem dX12_next_60 : decode cX12_next 60 = .ok (.if_icmp .ne 8, 3) := by decide +kernel
theorem dX12_next_63 : decode cX12_next 63 = .ok (.bipush 11, 2) := by decide +kernel
theorem dX12_next_65 : decode cX12_next 65 = .ok (.goto 12, 3) := by decide +kernel
theorem dX12_next_68 : decode cX12_next 68 = .ok (.aload_n 0, 1) := by decide +kernel
theorem dX12_next_69 : decode cX12_next 69 = .ok (.iload_n 2, 1) := by decide +kernel
theorem dX12_next_70 : decode cX12_next 70 = .ok (.iload 8, 2) := by decide +kernel
theorem dX12_next_72 : decode cX12_next 72 = .ok (.iload 5, 2) := by decide +kernel
theorem dX12_next_74 : decode cX12_next 74 = .ok (.invokevirtual 488, 3) := by decide +kernel
theorem dX12_next_77 : decode cX12_next 77 = .ok (.istore 9, 2) := by decide +kernel
theorem dX12_next_79 : decode cX12_next 79 = .ok (.iload 9, 2) := by decide +kernel
theorem dX12_next_81 : decode cX12_next 81 = .ok (.iload 7, 2) := by decide +kernel
theorem dX12_next_83 : decode cX12_next 83 = .ok (.if_icmp .lt 6, 3) := by decide +kernel
theorem dX12_next_86 : decode cX12_next 86 = .ok (.goto 11, 3) := by decide +kernel
theorem dX12_next_89 : decode cX12_next 89 = .ok (.iload 8, 2) := by decide +kernel
theorem dX12_next_91 : decode cX12_next 91 = .ok (.istore 6, 2) := by decide +kernel
theorem dX12_next_93 : decode cX12_next 93 = .ok (.iload 9, 2) := by decide +kernel
theorem dX12_next_95 : decode cX12_next 95 = .ok (.istore 7, 2) := by decide +kernel
theorem dX12_next_97 : decode cX12_next 97 = .ok (.iinc 8 1, 3) := by decide +kernel
theorem dX12_next_100 : decode cX12_next 100 = .ok (.goto (-59), 3) := by decide +kernel
theorem dX12_next_103 : decode cX12_next 103 = .ok (.iload 6, 2) := by decide +kernel
theorem dX12_next_105 : decode cX12_next 105 = .ok (.ireturn, 1) := by decide +kernel
theorem dX12_tens_0 : decode cX12_tens 0 = .ok (.lconst 1, 1) := by decide +kernel
theorem dX12_tens_1 : decode cX12_tens 1 = .ok (.lstore_n 1, 1) := by decide +kernel
theorem dX12_tens_2 : decode cX12_tens 2 = .ok (.iconst 0, 1) := by decide +kernel
theorem dX12_tens_3 : decode cX12_tens 3 = .ok (.istore_n 3, 1) := by decide +kernel
theorem dX12_tens_4 : decode cX12_tens 4 = .ok (.iload_n 3, 1) := by decide +kernel
theorem dX12_tens_5 : decode cX12_tens 5 = .ok (.iload_n 0, 1) := by decide +kernel
theorem dX12_tens_6 : decode cX12_tens 6 = .ok (.if_icmp .ge 15, 3) := by decide +kernel
theorem dX12_tens_9 : decode cX12_tens 9 = .ok (.lload_n 1, 1) := by decide +kernel
theorem dX12_tens_10 : decode cX12_tens 10 = .ok (.ldc2_w 361, 3) := by decide +kernel
theorem dX12_tens_13 : decode cX12_tens 13 = .ok (.lmul, 1) := by decide +kernel
theorem dX12_tens_14 : decode cX12_tens 14 = .ok (.lstore_n 1, 1) := by decide +kernel
theorem dX12_tens_15 : decode cX12_tens 15 = .ok (.iinc 3 1, 3) := by decide +kernel
theorem dX12_tens_18 : decode cX12_tens 18 = .ok (.goto (-14), 3) := by decide +kernel
theorem dX12_tens_21 : decode cX12_tens 21 = .ok (.lload_n 1, 1) := by decide +kernel
theorem dX12_tens_22 : decode cX12_tens 22 = .ok (.lreturn, 1) := by decide +kernel
theorem dX12_common_0 : decode cX12_common 0 = .ok (.lload_n 2, 1) := by decide +kernel
theorem dX12_common_1 : decode cX12_common 1 = .ok (.lconst 0, 1) := by decide +kernel
theorem dX12_common_2 : decode cX12_common 2 = .ok (.lcmp, 1) := by decide +kernel
theorem dX12_common_3 : decode cX12_common 3 = .ok (.ifCond .ne 7, 3) := by decide +kernel
theorem dX12_common_6 : decode cX12_common 6 = .ok (.lload_n 0, 1) := by decide +kernel
theorem dX12_common_7 : decode cX12_common 7 = .ok (.goto 10, 3) := by decide +kernel
theorem dX12_common_10 : decode cX12_common 10 = .ok (.lload_n 2, 1) := by decide +kernel
theorem dX12_common_11 : decode cX12_common 11 = .ok (.lload_n 0, 1) := by decide +kernel
theorem dX12_common_12 : decode cX12_common 12 = .ok (.lload_n 2, 1) := by decide +kernel
theorem dX12_common_13 : decode cX12_common 13 = .ok (.lrem, 1) := by decide +kernel
theorem dX12_common_14 : decode cX12_common 14 = .ok (.invokestatic 491, 3) := by decide +kernel
theorem dX12_common_17 : decode cX12_common 17 = .ok (.lreturn, 1) := by decide +kernel
theorem dX12_chanceFrom_0 : decode cX12_chanceFrom 0 = .ok (.aload_n 0, 1) := by decide +kernel
theorem dX12_chanceFrom_1 : decode cX12_chanceFrom 1 = .ok (.iload_n 2, 1) := by decide +kernel
theorem dX12_chanceFrom_2 : decode cX12_chanceFrom 2 = .ok (.invokevirtual 430, 3) := by decide +kernel
theorem dX12_chanceFrom_5 : decode cX12_chanceFrom 5 = .ok (.iconst 0, 1) := by decide +kernel
theorem dX12_chanceFrom_6 : decode cX12_chanceFrom 6 = .ok (.istore 4, 2) := by decide +kernel
theorem dX12_chanceFrom_8 : decode cX12_chanceFrom 8 = .ok (.iload 4, 2) := by decide +kernel
theorem dX12_chanceFrom_10 : decode cX12_chanceFrom 10 = .ok (.sipush 205, 3) := by decide +kernel
theorem dX12_chanceFrom_13 : decode cX12_chanceFrom 13 = .ok (.if_icmp .ge 17, 3) := by decide +kernel
theorem dX12_chanceFrom_16 : decode cX12_chanceFrom 16 = .ok (.aload_n 0, 1) := by decide +kernel
theorem dX12_chanceFrom_17 : decode cX12_chanceFrom 17 = .ok (.getfield 55, 3) := by decide +kernel
theorem dX12_chanceFrom_20 : decode cX12_chanceFrom 20 = .ok (.iload 4, 2) := by decide +kernel
theorem dX12_chanceFrom_22 : decode cX12_chanceFrom 22 = .ok (.lconst 0, 1) := by decide +kernel
theorem dX12_chanceFrom_23 : decode cX12_chanceFrom 23 = .ok (.lastore, 1) := by decide +kernel
theorem dX12_chanceFrom_24 : decode cX12_chanceFrom 24 = .ok (.iinc 4 1, 3) := by decide +kernel
theorem dX12_chanceFrom_27 : decode cX12_chanceFrom 27 = .ok (.goto (-19), 3) := by decide +kernel
theorem dX12_chanceFrom_30 : decode cX12_chanceFrom 30 = .ok (.iconst 0, 1) := by decide +kernel
theorem dX12_chanceFrom_31 : decode cX12_chanceFrom 31 = .ok (.istore 4, 2) := by decide +kernel
theorem dX12_chanceFrom_33 : decode cX12_chanceFrom 33 = .ok (.iload 4, 2) := by decide +kernel
theorem dX12_chanceFrom_35 : decode cX12_chanceFrom 35 = .ok (.iload_n 1, 1) := by decide +kernel
theorem dX12_chanceFrom_36 : decode cX12_chanceFrom 36 = .ok (.if_icmp .ge 73, 3) := by decide +kernel
theorem dX12_chanceFrom_39 : decode cX12_chanceFrom 39 = .ok (.bipush (-2), 2) := by decide +kernel
theorem dX12_chanceFrom_41 : decode cX12_chanceFrom 41 = .ok (.istore 5, 2) := by decide +kernel
theorem dX12_chanceFrom_43 : decode cX12_chanceFrom 43 = .ok (.iload 5, 2) := by decide +kernel
theorem dX12_chanceFrom_45 : decode cX12_chanceFrom 45 = .ok (.iconst 2, 1) := by decide +kernel
theorem dX12_chanceFrom_46 : decode cX12_chanceFrom 46 = .ok (.if_icmp .gt 53, 3) := by decide +kernel
theorem dX12_chanceFrom_49 : decode cX12_chanceFrom 49 = .ok (.bipush (-20), 2) := by decide +kernel
theorem dX12_chanceFrom_51 : decode cX12_chanceFrom 51 = .ok (.istore 6, 2) := by decide +kernel
theorem dX12_chanceFrom_53 : decode cX12_chanceFrom 53 = .ok (.iload 6, 2) := by decide +kernel
theorem dX12_chanceFrom_55 : decode cX12_chanceFrom 55 = .ok (.bipush 20, 2) := by decide +kernel
theorem dX12_chanceFrom_57 : decode cX12_chanceFrom 57 = .ok (.if_icmp .gt 36, 3) := by decide +kernel
theorem dX12_chanceFrom_60 : decode cX12_chanceFrom 60 = .ok (.aload_n 0, 1) := by decide +kernel
theorem dX12_chanceFrom_61 : decode cX12_chanceFrom 61 = .ok (.getfield 51, 3) := by decide +kernel
theorem dX12_chanceFrom_64 : decode cX12_chanceFrom 64 = .ok (.iload 5, 2) := by decide +kernel
theorem dX12_chanceFrom_66 : decode cX12_chanceFrom 66 = .ok (.iload 6, 2) := by decide +kernel
theorem dX12_chanceFrom_68 : decode cX12_chanceFrom 68 = .ok (.invokestatic 427, 3) := by decide +kernel
theorem dX12_chanceFrom_71 : decode cX12_chanceFrom 71 = .ok (.laload, 1) := by decide +kernel
theorem dX12_chanceFrom_72 : decode cX12_chanceFrom 72 = .ok (.lconst 0, 1) := by decide +kernel
theorem dX12_chanceFrom_73 : decode cX12_chanceFrom 73 = .ok (.lcmp, 1) := by decide +kernel
theorem dX12_chanceFrom_74 : decode cX12_chanceFrom 74 = .ok (.ifCond .le 13, 3) := by decide +kernel
theorem dX12_chanceFrom_77 : decode cX12_chanceFrom 77 = .ok (.aload_n 0, 1) := by decide +kernel
theorem dX12_chanceFrom_78 : decode cX12_chanceFrom 78 = .ok (.iload 4, 2) := by decide +kernel
theorem dX12_chanceFrom_80 : decode cX12_chanceFrom 80 = .ok (.iload 5, 2) := by decide +kernel
theorem dX12_chanceFrom_82 : decode cX12_chanceFrom 82 = .ok (.iload 6, 2) := by decide +kernel
theorem dX12_chanceFrom_84 : decode cX12_chanceFrom 84 = .ok (.invokevirtual 495, 3) := by decide +kernel
theorem dX12_chanceFrom_87 : decode cX12_chanceFrom 87 = .ok (.iinc 6 1, 3) := by decide +kernel
theorem dX12_chanceFrom_90 : decode cX12_chanceFrom 90 = .ok (.goto (-37), 3) := by decide +kernel
theorem dX12_chanceFrom_93 : decode cX12_chanceFrom 93 = .ok (.iinc 5 1, 3) := by decide +kernel
theorem dX12_chanceFrom_96 : decode cX12_chanceFrom 96 = .ok (.goto (-53), 3) := by decide +kernel
theorem dX12_chanceFrom_99 : decode cX12_chanceFrom 99 = .ok (.aload_n 0, 1) := by decide +kernel
theorem dX12_chanceFrom_100 : decode cX12_chanceFrom 100 = .ok (.invokevirtual 433, 3) := by decide +kernel
theorem dX12_chanceFrom_103 : decode cX12_chanceFrom 103 = .ok (.iinc 4 1, 3) := by decide +kernel
theorem dX12_chanceFrom_106 : decode cX12_chanceFrom 106 = .ok (.goto (-73), 3) := by decide +kernel
theorem dX12_chanceFrom_109 : decode cX12_chanceFrom 109 = .ok (.lconst 0, 1) := by decide +kernel
theorem dX12_chanceFrom_110 : decode cX12_chanceFrom 110 = .ok (.lstore 4, 2) := by decide +kernel
theorem dX12_chanceFrom_112 : decode cX12_chanceFrom 112 = .ok (.iload_n 3, 1) := by decide +kernel
theorem dX12_chanceFrom_113 : decode cX12_chanceFrom 113 = .ok (.istore 6, 2) := by decide +kernel
theorem dX12_chanceFrom_115 : decode cX12_chanceFrom 115 = .ok (.iload 6, 2) := by decide +kernel
theorem dX12_chanceFrom_117 : decode cX12_chanceFrom 117 = .ok (.bipush 20, 2) := by decide +kernel
theorem dX12_chanceFrom_119 : decode cX12_chanceFrom 119 = .ok (.if_icmp .gt 20, 3) := by decide +kernel
theorem dX12_chanceFrom_122 : decode cX12_chanceFrom 122 = .ok (.lload 4, 2) := by decide +kernel
theorem dX12_chanceFrom_124 : decode cX12_chanceFrom 124 = .ok (.aload_n 0, 1) := by decide +kernel
theorem dX12_chanceFrom_125 : decode cX12_chanceFrom 125 = .ok (.iload 6, 2) := by decide +kernel
theorem dX12_chanceFrom_127 : decode cX12_chanceFrom 127 = .ok (.invokevirtual 443, 3) := by decide +kernel
theorem dX12_chanceFrom_130 : decode cX12_chanceFrom 130 = .ok (.ladd, 1) := by decide +kernel
theorem dX12_chanceFrom_131 : decode cX12_chanceFrom 131 = .ok (.lstore 4, 2) := by decide +kernel
theorem dX12_chanceFrom_133 : decode cX12_chanceFrom 133 = .ok (.iinc 6 1, 3) := by decide +kernel
theorem dX12_chanceFrom_136 : decode cX12_chanceFrom 136 = .ok (.goto (-21), 3) := by decide +kernel
theorem dX12_chanceFrom_139 : decode cX12_chanceFrom 139 = .ok (.lload 4, 2) := by decide +kernel
theorem dX12_chanceFrom_141 : decode cX12_chanceFrom 141 = .ok (.lreturn, 1) := by decide +kernel
theorem dX12_slipsOn_0 : decode cX12_slipsOn 0 = .ok (.aload_n 0, 1) := by decide +kernel
theorem dX12_slipsOn_1 : decode cX12_slipsOn 1 = .ok (.iload_n 1, 1) := by decide +kernel
theorem dX12_slipsOn_2 : decode cX12_slipsOn 2 = .ok (.iload_n 2, 1) := by decide +kernel
theorem dX12_slipsOn_3 : decode cX12_slipsOn 3 = .ok (.iload_n 3, 1) := by decide +kernel
theorem dX12_slipsOn_4 : decode cX12_slipsOn 4 = .ok (.invokevirtual 312, 3) := by decide +kernel
theorem dX12_slipsOn_7 : decode cX12_slipsOn 7 = .ok (.istore 4, 2) := by decide +kernel
theorem dX12_slipsOn_9 : decode cX12_slipsOn 9 = .ok (.iload 4, 2) := by decide +kernel
theorem dX12_slipsOn_11 : decode cX12_slipsOn 11 = .ok (.bipush 9, 2) := by decide +kernel
theorem dX12_slipsOn_13 : decode cX12_slipsOn 13 = .ok (.if_icmp .ne 4, 3) := by decide +kernel
theorem dX12_slipsOn_16 : decode cX12_slipsOn 16 = .ok (.return_, 1) := by decide +kernel
theorem dX12_slipsOn_17 : decode cX12_slipsOn 17 = .ok (.iload 4, 2) := by decide +kernel
theorem dX12_slipsOn_19 : decode cX12_slipsOn 19 = .ok (.iconst 2, 1) := by decide +kernel
theorem dX12_slipsOn_20 : decode cX12_slipsOn 20 = .ok (.if_icmp .ge 27, 3) := by decide +kernel
theorem dX12_slipsOn_23 : decode cX12_slipsOn 23 = .ok (.aload_n 0, 1) := by decide +kernel
theorem dX12_slipsOn_24 : decode cX12_slipsOn 24 = .ok (.iload_n 1, 1) := by decide +kernel
theorem dX12_slipsOn_25 : decode cX12_slipsOn 25 = .ok (.iload_n 2, 1) := by decide +kernel
theorem dX12_slipsOn_26 : decode cX12_slipsOn 26 = .ok (.iload_n 3, 1) := by decide +kernel
theorem dX12_slipsOn_27 : decode cX12_slipsOn 27 = .ok (.iload 4, 2) := by decide +kernel
theorem dX12_slipsOn_29 : decode cX12_slipsOn 29 = .ok (.iconst 1, 1) := by decide +kernel
theorem dX12_slipsOn_30 : decode cX12_slipsOn 30 = .ok (.iadd, 1) := by decide +kernel
theorem dX12_slipsOn_31 : decode cX12_slipsOn 31 = .ok (.invokevirtual 280, 3) := by decide +kernel
theorem dX12_slipsOn_34 : decode cX12_slipsOn 34 = .ok (.ldc_w 273, 3) := by decide +kernel
theorem dX12_slipsOn_37 : decode cX12_slipsOn 37 = .ok (.if_icmp .eq 10, 3) := by decide +kernel
theorem dX12_slipsOn_40 : decode cX12_slipsOn 40 = .ok (.iload 4, 2) := by decide +kernel
theorem dX12_slipsOn_42 : decode cX12_slipsOn 42 = .ok (.iconst 1, 1) := by decide +kernel
theorem dX12_slipsOn_43 : decode cX12_slipsOn 43 = .ok (.iadd, 1) := by decide +kernel
theorem dX12_slipsOn_44 : decode cX12_slipsOn 44 = .ok (.goto 5, 3) := by decide +kernel
theorem dX12_slipsOn_47 : decode cX12_slipsOn 47 = .ok (.iload 4, 2) := by decide +kernel
theorem dX12_slipsOn_49 : decode cX12_slipsOn 49 = .ok (.istore 5, 2) := by decide +kernel
theorem dX12_slipsOn_51 : decode cX12_slipsOn 51 = .ok (.aload_n 0, 1) := by decide +kernel
theorem dX12_slipsOn_52 : decode cX12_slipsOn 52 = .ok (.getfield 55, 3) := by decide +kernel
theorem dX12_slipsOn_55 : decode cX12_slipsOn 55 = .ok (.iload 4, 2) := by decide +kernel
theorem dX12_slipsOn_57 : decode cX12_slipsOn 57 = .ok (.iload_n 3, 1) := by decide +kernel
theorem dX12_slipsOn_58 : decode cX12_slipsOn 58 = .ok (.iload 4, 2) := by decide +kernel
theorem dX12_slipsOn_60 : decode cX12_slipsOn 60 = .ok (.isub, 1) := by decide +kernel
theorem dX12_slipsOn_61 : decode cX12_slipsOn 61 = .ok (.invokestatic 427, 3) := by decide +kernel
theorem dX12_slipsOn_64 : decode cX12_slipsOn 64 = .ok (.dup2, 1) := by decide +kernel
theorem dX12_slipsOn_65 : decode cX12_slipsOn 65 = .ok (.laload, 1) := by decide +kernel
theorem dX12_slipsOn_66 : decode cX12_slipsOn 66 = .ok (.aload_n 0, 1) := by decide +kernel
theorem dX12_slipsOn_67 : decode cX12_slipsOn 67 = .ok (.getfield 51, 3) := by decide +kernel
theorem dX12_slipsOn_70 : decode cX12_slipsOn 70 = .ok (.iload_n 2, 1) := by decide +kernel
theorem dX12_slipsOn_71 : decode cX12_slipsOn 71 = .ok (.iload_n 3, 1) := by decide +kernel
theorem dX12_slipsOn_72 : decode cX12_slipsOn 72 = .ok (.invokestatic 427, 3) := by decide +kernel
theorem dX12_slipsOn_75 : decode cX12_slipsOn 75 = .ok (.laload, 1) := by decide +kernel
theorem dX12_slipsOn_76 : decode cX12_slipsOn 76 = .ok (.bipush 10, 2) := by decide +kernel
theorem dX12_slipsOn_78 : decode cX12_slipsOn 78 = .ok (.aload_n 0, 1) := by decide +kernel
theorem dX12_slipsOn_79 : decode cX12_slipsOn 79 = .ok (.getfield 13, 3) := by decide +kernel
theorem dX12_slipsOn_82 : decode cX12_slipsOn 82 = .ok (.iconst 3, 1) := by decide +kernel
theorem dX12_slipsOn_83 : decode cX12_slipsOn 83 = .ok (.iaload, 1) := by decide +kernel
theorem dX12_slipsOn_84 : decode cX12_slipsOn 84 = .ok (.isub, 1) := by decide +kernel
theorem dX12_slipsOn_85 : decode cX12_slipsOn 85 = .ok (.i2l, 1) := by decide +kernel
theorem dX12_slipsOn_86 : decode cX12_slipsOn 86 = .ok (.lmul, 1) := by decide +kernel
theorem dX12_slipsOn_87 : decode cX12_slipsOn 87 = .ok (.ladd, 1) := by decide +kernel
theorem dX12_slipsOn_88 : decode cX12_slipsOn 88 = .ok (.lastore, 1) := by decide +kernel
theorem dX12_slipsOn_89 : decode cX12_slipsOn 89 = .ok (.aload_n 0, 1) := by decide +kernel
theorem dX12_slipsOn_90 : decode cX12_slipsOn 90 = .ok (.getfield 55, 3) := by decide +kernel
theorem dX12_slipsOn_93 : decode cX12_slipsOn 93 = .ok (.iload 5, 2) := by decide +kernel
theorem dX12_slipsOn_95 : decode cX12_slipsOn 95 = .ok (.iload_n 3, 1) := by decide +kernel
theorem dX12_slipsOn_96 : decode cX12_slipsOn 96 = .ok (.iload 5, 2) := by decide +kernel
theorem dX12_slipsOn_98 : decode cX12_slipsOn 98 = .ok (.isub, 1) := by decide +kernel
theorem dX12_slipsOn_99 : decode cX12_slipsOn 99 = .ok (.invokestatic 427, 3) := by decide +kernel
theorem dX12_slipsOn_102 : decode cX12_slipsOn 102 = .ok (.dup2, 1) := by decide +kernel
theorem dX12_slipsOn_103 : decode cX12_slipsOn 103 = .ok (.laload, 1) := by decide +kernel
theorem dX12_slipsOn_104 : decode cX12_slipsOn 104 = .ok (.aload_n 0, 1) := by decide +kernel
theorem dX12_slipsOn_105 : decode cX12_slipsOn 105 = .ok (.getfield 51, 3) := by decide +kernel
theorem dX12_slipsOn_108 : decode cX12_slipsOn 108 = .ok (.iload_n 2, 1) := by decide +kernel
theorem dX12_slipsOn_109 : decode cX12_slipsOn 109 = .ok (.iload_n 3, 1) := by decide +kernel
theorem dX12_slipsOn_110 : decode cX12_slipsOn 110 = .ok (.invokestatic 427, 3) := by decide +kernel
theorem dX12_slipsOn_113 : decode cX12_slipsOn 113 = .ok (.laload, 1) := by decide +kernel
theorem dX12_slipsOn_114 : decode cX12_slipsOn 114 = .ok (.aload_n 0, 1) := by decide +kernel
theorem dX12_slipsOn_115 : decode cX12_slipsOn 115 = .ok (.getfield 13, 3) := by decide +kernel
theorem dX12_slipsOn_118 : decode cX12_slipsOn 118 = .ok (.iconst 3, 1) := by decide +kernel
theorem dX12_slipsOn_119 : decode cX12_slipsOn 119 = .ok (.iaload, 1) := by decide +kernel
theorem dX12_slipsOn_120 : decode cX12_slipsOn 120 = .ok (.i2l, 1) := by decide +kernel
theorem dX12_slipsOn_121 : decode cX12_slipsOn 121 = .ok (.lmul, 1) := by decide +kernel
theorem dX12_slipsOn_122 : decode cX12_slipsOn 122 = .ok (.ladd, 1) := by decide +kernel
theorem dX12_slipsOn_123 : decode cX12_slipsOn 123 = .ok (.lastore, 1) := by decide +kernel
theorem dX12_slipsOn_124 : decode cX12_slipsOn 124 = .ok (.return_, 1) := by decide +kernel
theorem dX12_chance_0 : decode cX12_chance 0 = .ok (.aload_n 0, 1) := by decide +kernel
theorem dX12_chance_1 : decode cX12_chance 1 = .ok (.iconst 0, 1) := by decide +kernel
theorem dX12_chance_2 : decode cX12_chance 2 = .ok (.putfield 1, 3) := by decide +kernel
theorem dX12_chance_5 : decode cX12_chance 5 = .ok (.aload_n 0, 1) := by decide +kernel
theorem dX12_chance_6 : decode cX12_chance 6 = .ok (.iload_n 1, 1) := by decide +kernel
theorem dX12_chance_7 : decode cX12_chance 7 = .ok (.iload_n 2, 1) := by decide +kernel
theorem dX12_chance_8 : decode cX12_chance 8 = .ok (.invokevirtual 413, 3) := by decide +kernel
theorem dX12_chance_11 : decode cX12_chance 11 = .ok (.ifCond .eq 14, 3) := by decide +kernel
theorem dX12_chance_14 : decode cX12_chance 14 = .ok (.iload 4, 2) := by decide +kernel
theorem dX12_chance_16 : decode cX12_chance 16 = .ok (.i2l, 1) := by decide +kernel
theorem dX12_chance_17 : decode cX12_chance 17 = .ok (.lconst 0, 1) := by decide +kernel
theorem dX12_chance_18 : decode cX12_chance 18 = .ok (.lconst 1, 1) := by decide +kernel
theorem dX12_chance_19 : decode cX12_chance 19 = .ok (.invokestatic 152, 3) := by decide +kernel
theorem dX12_chance_22 : decode cX12_chance 22 = .ok (.ifCond .ne 7, 3) := by decide +kernel
theorem dX12_chance_25 : decode cX12_chance 25 = .ok (.ldc2_w 436, 3) := by decide +kernel
theorem dX12_chance_28 : decode cX12_chance 28 = .ok (.lreturn, 1) := by decide +kernel
theorem dX12_chance_29 : decode cX12_chance 29 = .ok (.iload_n 3, 1) := by decide +kernel
theorem dX12_chance_30 : decode cX12_chance 30 = .ok (.i2l, 1) := by decide +kernel
theorem dX12_chance_31 : decode cX12_chance 31 = .ok (.invokestatic 240, 3) := by decide +kernel
theorem dX12_chance_34 : decode cX12_chance 34 = .ok (.ifCond .ne 7, 3) := by decide +kernel
theorem dX12_chance_37 : decode cX12_chance 37 = .ok (.ldc2_w 438, 3) := by decide +kernel
theorem dX12_chance_40 : decode cX12_chance 40 = .ok (.lreturn, 1) := by decide +kernel
theorem dX12_chance_41 : decode cX12_chance 41 = .ok (.aload_n 0, 1) := by decide +kernel
theorem dX12_chance_42 : decode cX12_chance 42 = .ok (.iload_n 1, 1) := by decide +kernel
theorem dX12_chance_43 : decode cX12_chance 43 = .ok (.iload_n 2, 1) := by decide +kernel
theorem dX12_chance_44 : decode cX12_chance 44 = .ok (.invokevirtual 299, 3) := by decide +kernel
theorem dX12_chance_47 : decode cX12_chance 47 = .ok (.aload_n 0, 1) := by decide +kernel
theorem dX12_chance_48 : decode cX12_chance 48 = .ok (.aload_n 0, 1) := by decide +kernel
theorem dX12_chance_49 : decode cX12_chance 49 = .ok (.getfield 13, 3) := by decide +kernel
theorem dX12_chance_52 : decode cX12_chance 52 = .ok (.bipush 10, 2) := by decide +kernel
theorem dX12_chance_54 : decode cX12_chance 54 = .ok (.iload_n 2, 1) := by decide +kernel
theorem dX12_chance_55 : decode cX12_chance 55 = .ok (.iadd, 1) := by decide +kernel
theorem dX12_chance_56 : decode cX12_chance 56 = .ok (.iaload, 1) := by decide +kernel
theorem dX12_chance_57 : decode cX12_chance 57 = .ok (.aload_n 0, 1) := by decide +kernel
theorem dX12_chance_58 : decode cX12_chance 58 = .ok (.getfield 13, 3) := by decide +kernel
theorem dX12_chance_61 : decode cX12_chance 61 = .ok (.bipush 77, 2) := by decide +kernel
theorem dX12_chance_63 : decode cX12_chance 63 = .ok (.iload_n 1, 1) := by decide +kernel
theorem dX12_chance_64 : decode cX12_chance 64 = .ok (.iadd, 1) := by decide +kernel
theorem dX12_chance_65 : decode cX12_chance 65 = .ok (.iaload, 1) := by decide +kernel
theorem dX12_chance_66 : decode cX12_chance 66 = .ok (.iload_n 3, 1) := by decide +kernel
theorem dX12_chance_67 : decode cX12_chance 67 = .ok (.invokevirtual 498, 3) := by decide +kernel
theorem dX12_chance_70 : decode cX12_chance 70 = .ok (.lstore 5, 2) := by decide +kernel
theorem dX12_chance_72 : decode cX12_chance 72 = .ok (.aload_n 0, 1) := by decide +kernel
theorem dX12_chance_73 : decode cX12_chance 73 = .ok (.getfield 13, 3) := by decide +kernel
theorem dX12_chance_76 : decode cX12_chance 76 = .ok (.bipush 10, 2) := by decide +kernel
theorem dX12_chance_78 : decode cX12_chance 78 = .ok (.iload_n 2, 1) := by decide +kernel
theorem dX12_chance_79 : decode cX12_chance 79 = .ok (.iadd, 1) := by decide +kernel
theorem dX12_chance_80 : decode cX12_chance 80 = .ok (.iaload, 1) := by decide +kernel
theorem dX12_chance_81 : decode cX12_chance 81 = .ok (.invokestatic 502, 3) := by decide +kernel
theorem dX12_chance_84 : decode cX12_chance 84 = .ok (.lstore 7, 2) := by decide +kernel
theorem dX12_chance_86 : decode cX12_chance 86 = .ok (.lload 5, 2) := by decide +kernel
theorem dX12_chance_88 : decode cX12_chance 88 = .ok (.lload 7, 2) := by decide +kernel
theorem dX12_chance_90 : decode cX12_chance 90 = .ok (.invokestatic 491, 3) := by decide +kernel
theorem dX12_chance_93 : decode cX12_chance 93 = .ok (.lstore 9, 2) := by decide +kernel
theorem dX12_chance_95 : decode cX12_chance 95 = .ok (.iload 4, 2) := by decide +kernel
theorem dX12_chance_97 : decode cX12_chance 97 = .ok (.ifCond .ne 8, 3) := by decide +kernel
theorem dX12_chance_100 : decode cX12_chance 100 = .ok (.lload 5, 2) := by decide +kernel
theorem dX12_chance_102 : decode cX12_chance 102 = .ok (.goto 5, 3) := by decide +kernel
theorem dX12_chance_105 : decode cX12_chance 105 = .ok (.lload 7, 2) := by decide +kernel
theorem dX12_chance_107 : decode cX12_chance 107 = .ok (.lload 9, 2) := by decide +kernel
theorem dX12_chance_109 : decode cX12_chance 109 = .ok (.ldiv, 1) := by decide +kernel
theorem dX12_chance_110 : decode cX12_chance 110 = .ok (.lreturn, 1) := by decide +kernel
theorem dX12_putBy_0 : decode cX12_putBy 0 = .ok (.aload_n 0, 1) := by decide +kernel
theorem dX12_putBy_1 : decode cX12_putBy 1 = .ok (.iconst 0, 1) := by decide +kernel
theorem dX12_putBy_2 : decode cX12_putBy 2 = .ok (.putfield 1, 3) := by decide +kernel
theorem dX12_putBy_5 : decode cX12_putBy 5 = .ok (.aload_n 0, 1) := by decide +kernel
theorem dX12_putBy_6 : decode cX12_putBy 6 = .ok (.iload_n 1, 1) := by decide +kernel
theorem dX12_putBy_7 : decode cX12_putBy 7 = .ok (.iload_n 2, 1) := by decide +kernel
theorem dX12_putBy_8 : decode cX12_putBy 8 = .ok (.invokevirtual 413, 3) := by decide +kernel
theorem dX12_putBy_11 : decode cX12_putBy 11 = .ok (.ifCond .ne 6, 3) := by decide +kernel
theorem dX12_putBy_14 : decode cX12_putBy 14 = .ok (.ldc 247, 2) := by decide +kernel
theorem dX12_putBy_16 : decode cX12_putBy 16 = .ok (.ireturn, 1) := by decide +kernel
theorem dX12_putBy_17 : decode cX12_putBy 17 = .ok (.iload_n 3, 1) := by decide +kernel
theorem dX12_putBy_18 : decode cX12_putBy 18 = .ok (.i2l, 1) := by decide +kernel
theorem dX12_putBy_19 : decode cX12_putBy 19 = .ok (.lconst 0, 1) := by decide +kernel
theorem dX12_putBy_20 : decode cX12_putBy 20 = .ok (.ldc2_w 367, 3) := by decide +kernel
theorem dX12_putBy_23 : decode cX12_putBy 23 = .ok (.invokestatic 152, 3) := by decide +kernel
theorem dX12_putBy_26 : decode cX12_putBy 26 = .ok (.ifCond .ne 6, 3) := by decide +kernel
theorem dX12_putBy_29 : decode cX12_putBy 29 = .ok (.ldc 206, 2) := by decide +kernel
theorem dX12_putBy_31 : decode cX12_putBy 31 = .ok (.ireturn, 1) := by decide +kernel
theorem dX12_putBy_32 : decode cX12_putBy 32 = .ok (.aload_n 0, 1) := by decide +kernel
theorem dX12_putBy_33 : decode cX12_putBy 33 = .ok (.iload_n 1, 1) := by decide +kernel
theorem dX12_putBy_34 : decode cX12_putBy 34 = .ok (.iload_n 2, 1) := by decide +kernel
theorem dX12_putBy_35 : decode cX12_putBy 35 = .ok (.invokevirtual 299, 3) := by decide +kernel
theorem dX12_putBy_38 : decode cX12_putBy 38 = .ok (.bipush (-20), 2) := by decide +kernel
theorem dX12_putBy_40 : decode cX12_putBy 40 = .ok (.istore 4, 2) := by decide +kernel
theorem dX12_putBy_42 : decode cX12_putBy 42 = .ok (.iload 4, 2) := by decide +kernel
theorem dX12_putBy_44 : decode cX12_putBy 44 = .ok (.bipush 20, 2) := by decide +kernel
theorem dX12_putBy_46 : decode cX12_putBy 46 = .ok (.if_icmp .gt 51, 3) := by decide +kernel
theorem dX12_putBy_49 : decode cX12_putBy 49 = .ok (.aload_n 0, 1) := by decide +kernel
theorem dX12_putBy_50 : decode cX12_putBy 50 = .ok (.aload_n 0, 1) := by decide +kernel
theorem dX12_putBy_51 : decode cX12_putBy 51 = .ok (.getfield 13, 3) := by decide +kernel
theorem dX12_putBy_54 : decode cX12_putBy 54 = .ok (.bipush 10, 2) := by decide +kernel
theorem dX12_putBy_56 : decode cX12_putBy 56 = .ok (.iload_n 2, 1) := by decide +kernel
theorem dX12_putBy_57 : decode cX12_putBy 57 = .ok (.iadd, 1) := by decide +kernel
theorem dX12_putBy_58 : decode cX12_putBy 58 = .ok (.iaload, 1) := by decide +kernel
theorem dX12_putBy_59 : decode cX12_putBy 59 = .ok (.iload 4, 2) := by decide +kernel
theorem dX12_putBy_61 : decode cX12_putBy 61 = .ok (.iconst 0, 1) := by decide +kernel
theorem dX12_putBy_62 : decode cX12_putBy 62 = .ok (.invokevirtual 498, 3) := by decide +kernel
theorem dX12_putBy_65 : decode cX12_putBy 65 = .ok (.ldc2_w 367, 3) := by decide +kernel
theorem dX12_putBy_68 : decode cX12_putBy 68 = .ok (.lmul, 1) := by decide +kernel
theorem dX12_putBy_69 : decode cX12_putBy 69 = .ok (.iload_n 3, 1) := by decide +kernel
theorem dX12_putBy_70 : decode cX12_putBy 70 = .ok (.i2l, 1) := by decide +kernel
theorem dX12_putBy_71 : decode cX12_putBy 71 = .ok (.aload_n 0, 1) := by decide +kernel
theorem dX12_putBy_72 : decode cX12_putBy 72 = .ok (.getfield 13, 3) := by decide +kernel
theorem dX12_putBy_75 : decode cX12_putBy 75 = .ok (.bipush 10, 2) := by decide +kernel
theorem dX12_putBy_77 : decode cX12_putBy 77 = .ok (.iload_n 2, 1) := by decide +kernel
theorem dX12_putBy_78 : decode cX12_putBy 78 = .ok (.iadd, 1) := by decide +kernel
theorem dX12_putBy_79 : decode cX12_putBy 79 = .ok (.iaload, 1) := by decide +kernel
theorem dX12_putBy_80 : decode cX12_putBy 80 = .ok (.invokestatic 502, 3) := by decide +kernel
theorem dX12_putBy_83 : decode cX12_putBy 83 = .ok (.lmul, 1) := by decide +kernel
theorem dX12_putBy_84 : decode cX12_putBy 84 = .ok (.lcmp, 1) := by decide +kernel
theorem dX12_putBy_85 : decode cX12_putBy 85 = .ok (.ifCond .lt 6, 3) := by decide +kernel
theorem dX12_putBy_88 : decode cX12_putBy 88 = .ok (.iload 4, 2) := by decide +kernel
theorem dX12_putBy_90 : decode cX12_putBy 90 = .ok (.ireturn, 1) := by decide +kernel
theorem dX12_putBy_91 : decode cX12_putBy 91 = .ok (.iinc 4 1, 3) := by decide +kernel
theorem dX12_putBy_94 : decode cX12_putBy 94 = .ok (.goto (-52), 3) := by decide +kernel
theorem dX12_putBy_97 : decode cX12_putBy 97 = .ok (.ldc_w 422, 3) := by decide +kernel
theorem dX12_putBy_100 : decode cX12_putBy 100 = .ok (.ireturn, 1) := by decide +kernel
theorem dX12_cut_0 : decode cX12_cut 0 = .ok (.iload_n 2, 1) := by decide +kernel
theorem dX12_cut_1 : decode cX12_cut 1 = .ok (.ifCond .ne 10, 3) := by decide +kernel
theorem dX12_cut_4 : decode cX12_cut 4 = .ok (.lload_n 0, 1) := by decide +kernel
theorem dX12_cut_5 : decode cX12_cut 5 = .ok (.l2i, 1) := by decide +kernel
theorem dX12_cut_6 : decode cX12_cut 6 = .ok (.i2b, 1) := by decide +kernel
theorem dX12_cut_7 : decode cX12_cut 7 = .ok (.i2l, 1) := by decide +kernel
theorem dX12_cut_8 : decode cX12_cut 8 = .ok (.goto 27, 3) := by decide +kernel
theorem dX12_cut_11 : decode cX12_cut 11 = .ok (.iload_n 2, 1) := by decide +kernel
theorem dX12_cut_12 : decode cX12_cut 12 = .ok (.iconst 1, 1) := by decide +kernel
theorem dX12_cut_13 : decode cX12_cut 13 = .ok (.if_icmp .ne 10, 3) := by decide +kernel
theorem dX12_cut_16 : decode cX12_cut 16 = .ok (.lload_n 0, 1) := by decide +kernel
theorem dX12_cut_17 : decode cX12_cut 17 = .ok (.l2i, 1) := by decide +kernel
theorem dX12_cut_18 : decode cX12_cut 18 = .ok (.i2s, 1) := by decide +kernel
theorem dX12_cut_19 : decode cX12_cut 19 = .ok (.i2l, 1) := by decide +kernel
theorem dX12_cut_20 : decode cX12_cut 20 = .ok (.goto 15, 3) := by decide +kernel
theorem dX12_cut_23 : decode cX12_cut 23 = .ok (.iload_n 2, 1) := by decide +kernel
theorem dX12_cut_24 : decode cX12_cut 24 = .ok (.iconst 2, 1) := by decide +kernel
theorem dX12_cut_25 : decode cX12_cut 25 = .ok (.if_icmp .ne 9, 3) := by decide +kernel
theorem dX12_cut_28 : decode cX12_cut 28 = .ok (.lload_n 0, 1) := by decide +kernel
theorem dX12_cut_29 : decode cX12_cut 29 = .ok (.l2i, 1) := by decide +kernel
theorem dX12_cut_30 : decode cX12_cut 30 = .ok (.i2l, 1) := by decide +kernel
theorem dX12_cut_31 : decode cX12_cut 31 = .ok (.goto 4, 3) := by decide +kernel
theorem dX12_cut_34 : decode cX12_cut 34 = .ok (.lload_n 0, 1) := by decide +kernel
theorem dX12_cut_35 : decode cX12_cut 35 = .ok (.lreturn, 1) := by decide +kernel
theorem dX12_numbers_0 : decode cX12_numbers 0 = .ok (.aload_n 0, 1) := by decide +kernel
theorem dX12_numbers_1 : decode cX12_numbers 1 = .ok (.iconst 0, 1) := by decide +kernel
theorem dX12_numbers_2 : decode cX12_numbers 2 = .ok (.putfield 1, 3) := by decide +kernel
theorem dX12_numbers_5 : decode cX12_numbers 5 = .ok (.iload_n 1, 1) := by decide +kernel
theorem dX12_numbers_6 : decode cX12_numbers 6 = .ok (.i2l, 1) := by decide +kernel
theorem dX12_numbers_7 : decode cX12_numbers 7 = .ok (.lconst 0, 1) := by decide +kernel
theorem dX12_numbers_8 : decode cX12_numbers 8 = .ok (.ldc2_w 385, 3) := by decide +kernel
theorem dX12_numbers_11 : decode cX12_numbers 11 = .ok (.invokestatic 152, 3) := by decide +kernel
theorem dX12_numbers_14 : decode cX12_numbers 14 = .ok (.ifCond .eq 15, 3) := by decide +kernel
theorem dX12_numbers_17 : decode cX12_numbers 17 = .ok (.iload_n 2, 1) := by decide +kernel
theorem dX12_numbers_18 : decode cX12_numbers 18 = .ok (.i2l, 1) := by decide +kernel
theorem dX12_numbers_19 : decode cX12_numbers 19 = .ok (.lconst 0, 1) := by decide +kernel
theorem dX12_numbers_20 : decode cX12_numbers 20 = .ok (.ldc2_w 385, 3) := by decide +kernel
theorem dX12_numbers_23 : decode cX12_numbers 23 = .ok (.invokestatic 152, 3) := by decide +kernel
theorem dX12_numbers_26 : decode cX12_numbers 26 = .ok (.ifCond .ne 6, 3) := by decide +kernel
theorem dX12_numbers_29 : decode cX12_numbers 29 = .ok (.ldc 247, 2) := by decide +kernel
theorem dX12_numbers_31 : decode cX12_numbers 31 = .ok (.ireturn, 1) := by decide +kernel
theorem dX12_numbers_32 : decode cX12_numbers 32 = .ok (.iload_n 3, 1) := by decide +kernel
theorem dX12_numbers_33 : decode cX12_numbers 33 = .ok (.i2l, 1) := by decide +kernel
theorem dX12_numbers_34 : decode cX12_numbers 34 = .ok (.lconst 0, 1) := by decide +kernel
theorem dX12_numbers_35 : decode cX12_numbers 35 = .ok (.ldc2_w 327, 3) := by decide +kernel
theorem dX12_numbers_38 : decode cX12_numbers 38 = .ok (.invokestatic 152, 3) := by decide +kernel
theorem dX12_numbers_41 : decode cX12_numbers 41 = .ok (.ifCond .ne 6, 3) := by decide +kernel
theorem dX12_numbers_44 : decode cX12_numbers 44 = .ok (.ldc 206, 2) := by decide +kernel
theorem dX12_numbers_46 : decode cX12_numbers 46 = .ok (.ireturn, 1) := by decide +kernel
theorem dX12_numbers_47 : decode cX12_numbers 47 = .ok (.aload_n 0, 1) := by decide +kernel
theorem dX12_numbers_48 : decode cX12_numbers 48 = .ok (.getfield 76, 3) := by decide +kernel
theorem dX12_numbers_51 : decode cX12_numbers 51 = .ok (.iload_n 1, 1) := by decide +kernel
theorem dX12_numbers_52 : decode cX12_numbers 52 = .ok (.iload_n 2, 1) := by decide +kernel
theorem dX12_numbers_53 : decode cX12_numbers 53 = .ok (.iastore, 1) := by decide +kernel
theorem dX12_numbers_54 : decode cX12_numbers 54 = .ok (.aload_n 0, 1) := by decide +kernel
theorem dX12_numbers_55 : decode cX12_numbers 55 = .ok (.getfield 79, 3) := by decide +kernel
theorem dX12_numbers_58 : decode cX12_numbers 58 = .ok (.iload_n 1, 1) := by decide +kernel
theorem dX12_numbers_59 : decode cX12_numbers 59 = .ok (.iload_n 3, 1) := by decide +kernel
theorem dX12_numbers_60 : decode cX12_numbers 60 = .ok (.iastore, 1) := by decide +kernel
theorem dX12_numbers_61 : decode cX12_numbers 61 = .ok (.iconst 0, 1) := by decide +kernel
theorem dX12_numbers_62 : decode cX12_numbers 62 = .ok (.istore 4, 2) := by decide +kernel
theorem dX12_numbers_64 : decode cX12_numbers 64 = .ok (.iload 4, 2) := by decide +kernel
theorem dX12_numbers_66 : decode cX12_numbers 66 = .ok (.iload_n 3, 1) := by decide +kernel
theorem dX12_numbers_67 : decode cX12_numbers 67 = .ok (.if_icmp .ge 22, 3) := by decide +kernel
theorem dX12_numbers_70 : decode cX12_numbers 70 = .ok (.aload_n 0, 1) := by decide +kernel
theorem dX12_numbers_71 : decode cX12_numbers 71 = .ok (.getfield 82, 3) := by decide +kernel
theorem dX12_numbers_74 : decode cX12_numbers 74 = .ok (.bipush 40, 2) := by decide +kernel
theorem dX12_numbers_76 : decode cX12_numbers 76 = .ok (.iload_n 1, 1) := by decide +kernel
theorem dX12_numbers_77 : decode cX12_numbers 77 = .ok (.imul, 1) := by decide +kernel
theorem dX12_numbers_78 : decode cX12_numbers 78 = .ok (.iload 4, 2) := by decide +kernel
theorem dX12_numbers_80 : decode cX12_numbers 80 = .ok (.iadd, 1) := by decide +kernel
theorem dX12_numbers_81 : decode cX12_numbers 81 = .ok (.lconst 0, 1) := by decide +kernel
theorem dX12_numbers_82 : decode cX12_numbers 82 = .ok (.lastore, 1) := by decide +kernel
theorem dX12_numbers_83 : decode cX12_numbers 83 = .ok (.iinc 4 1, 3) := by decide +kernel
theorem dX12_numbers_86 : decode cX12_numbers 86 = .ok (.goto (-22), 3) := by decide +kernel
theorem dX12_numbers_89 : decode cX12_numbers 89 = .ok (.iconst 0, 1) := by decide +kernel
theorem dX12_numbers_90 : decode cX12_numbers 90 = .ok (.ireturn, 1) := by decide +kernel
theorem dX12_write_0 : decode cX12_write 0 = .ok (.aload_n 0, 1) := by decide +kernel
theorem dX12_write_1 : decode cX12_write 1 = .ok (.iconst 0, 1) := by decide +kernel
theorem dX12_write_2 : decode cX12_write 2 = .ok (.putfield 1, 3) := by decide +kernel
theorem dX12_write_5 : decode cX12_write 5 = .ok (.aload_n 0, 1) := by decide +kernel
theorem dX12_write_6 : decode cX12_write 6 = .ok (.iload_n 1, 1) := by decide +kernel
theorem dX12_write_7 : decode cX12_write 7 = .ok (.invokevirtual 388, 3) := by decide +kernel
theorem dX12_write_10 : decode cX12_write 10 = .ok (.istore 5, 2) := by decide +kernel
theorem dX12_write_12 : decode cX12_write 12 = .ok (.iload 5, 2) := by decide +kernel
theorem dX12_write_14 : decode cX12_write 14 = .ok (.ifCond .eq 7, 3) := by decide +kernel
theorem dX12_write_17 : decode cX12_write 17 = .ok (.iload 5, 2) := by decide +kernel
theorem dX12_write_19 : decode cX12_write 19 = .ok (.i2l, 1) := by decide +kernel
theorem dX12_write_20 : decode cX12_write 20 = .ok (.lreturn, 1) := by decide +kernel
theorem dX12_write_21 : decode cX12_write 21 = .ok (.iload_n 2, 1) := by decide +kernel
theorem dX12_write_22 : decode cX12_write 22 = .ok (.i2l, 1) := by decide +kernel
theorem dX12_write_23 : decode cX12_write 23 = .ok (.lconst 0, 1) := by decide +kernel
theorem dX12_write_24 : decode cX12_write 24 = .ok (.aload_n 0, 1) := by decide +kernel
theorem dX12_write_25 : decode cX12_write 25 = .ok (.getfield 79, 3) := by decide +kernel
theorem dX12_write_28 : decode cX12_write 28 = .ok (.iload_n 1, 1) := by decide +kernel
theorem dX12_write_29 : decode cX12_write 29 = .ok (.iaload, 1) := by decide +kernel
theorem dX12_write_30 : decode cX12_write 30 = .ok (.iconst 1, 1) := by decide +kernel
theorem dX12_write_31 : decode cX12_write 31 = .ok (.isub, 1) := by decide +kernel
theorem dX12_write_32 : decode cX12_write 32 = .ok (.i2l, 1) := by decide +kernel
theorem dX12_write_33 : decode cX12_write 33 = .ok (.invokestatic 152, 3) := by decide +kernel
theorem dX12_write_36 : decode cX12_write 36 = .ok (.ifCond .ne 7, 3) := by decide +kernel
theorem dX12_write_39 : decode cX12_write 39 = .ok (.ldc2_w 505, 3) := by decide +kernel
theorem dX12_write_42 : decode cX12_write 42 = .ok (.lreturn, 1) := by decide +kernel
theorem dX12_write_43 : decode cX12_write 43 = .ok (.aload_n 0, 1) := by decide +kernel
theorem dX12_write_44 : decode cX12_write 44 = .ok (.getfield 82, 3) := by decide +kernel
theorem dX12_write_47 : decode cX12_write 47 = .ok (.bipush 40, 2) := by decide +kernel
theorem dX12_write_49 : decode cX12_write 49 = .ok (.iload_n 1, 1) := by decide +kernel
theorem dX12_write_50 : decode cX12_write 50 = .ok (.imul, 1) := by decide +kernel
theorem dX12_write_51 : decode cX12_write 51 = .ok (.iload_n 2, 1) := by decide +kernel
theorem dX12_write_52 : decode cX12_write 52 = .ok (.iadd, 1) := by decide +kernel
theorem dX12_write_53 : decode cX12_write 53 = .ok (.lload_n 3, 1) := by decide +kernel
theorem dX12_write_54 : decode cX12_write 54 = .ok (.aload_n 0, 1) := by decide +kernel
theorem dX12_write_55 : decode cX12_write 55 = .ok (.getfield 76, 3) := by decide +kernel
theorem dX12_write_58 : decode cX12_write 58 = .ok (.iload_n 1, 1) := by decide +kernel
theorem dX12_write_59 : decode cX12_write 59 = .ok (.iaload, 1) := by decide +kernel
theorem dX12_write_60 : decode cX12_write 60 = .ok (.invokestatic 507, 3) := by decide +kernel
theorem dX12_write_63 : decode cX12_write 63 = .ok (.lastore, 1) := by decide +kernel
theorem dX12_write_64 : decode cX12_write 64 = .ok (.aload_n 0, 1) := by decide +kernel
theorem dX12_write_65 : decode cX12_write 65 = .ok (.getfield 82, 3) := by decide +kernel
theorem dX12_write_68 : decode cX12_write 68 = .ok (.bipush 40, 2) := by decide +kernel
theorem dX12_write_70 : decode cX12_write 70 = .ok (.iload_n 1, 1) := by decide +kernel
theorem dX12_write_71 : decode cX12_write 71 = .ok (.imul, 1) := by decide +kernel
theorem dX12_write_72 : decode cX12_write 72 = .ok (.iload_n 2, 1) := by decide +kernel
theorem dX12_write_73 : decode cX12_write 73 = .ok (.iadd, 1) := by decide +kernel
theorem dX12_write_74 : decode cX12_write 74 = .ok (.laload, 1) := by decide +kernel
theorem dX12_write_75 : decode cX12_write 75 = .ok (.lreturn, 1) := by decide +kernel
theorem dX12_lists_0 : decode cX12_lists 0 = .ok (.aload_n 0, 1) := by decide +kernel
theorem dX12_lists_1 : decode cX12_lists 1 = .ok (.iconst 0, 1) := by decide +kernel
theorem dX12_lists_2 : decode cX12_lists 2 = .ok (.putfield 1, 3) := by decide +kernel
theorem dX12_lists_5 : decode cX12_lists 5 = .ok (.iload_n 1, 1) := by decide +kernel
theorem dX12_lists_6 : decode cX12_lists 6 = .ok (.i2l, 1) := by decide +kernel
theorem dX12_lists_7 : decode cX12_lists 7 = .ok (.lconst 0, 1) := by decide +kernel
theorem dX12_lists_8 : decode cX12_lists 8 = .ok (.ldc2_w 385, 3) := by decide +kernel
theorem dX12_lists_11 : decode cX12_lists 11 = .ok (.invokestatic 152, 3) := by decide +kernel
theorem dX12_lists_14 : decode cX12_lists 14 = .ok (.ifCond .eq 12, 3) := by decide +kernel
theorem dX12_lists_17 : decode cX12_lists 17 = .ok (.aload_n 0, 1) := by decide +kernel
theorem dX12_lists_18 : decode cX12_lists 18 = .ok (.iload_n 2, 1) := by decide +kernel
theorem dX12_lists_19 : decode cX12_lists 19 = .ok (.iload_n 3, 1) := by decide +kernel
theorem dX12_lists_20 : decode cX12_lists 20 = .ok (.invokevirtual 413, 3) := by decide +kernel
theorem dX12_lists_23 : decode cX12_lists 23 = .ok (.ifCond .ne 6, 3) := by decide +kernel
theorem dX12_lists_26 : decode cX12_lists 26 = .ok (.ldc 247, 2) := by decide +kernel
theorem dX12_lists_28 : decode cX12_lists 28 = .ok (.ireturn, 1) := by decide +kernel
theorem dX12_lists_29 : decode cX12_lists 29 = .ok (.aload_n 0, 1) := by decide +kernel
theorem dX12_lists_30 : decode cX12_lists 30 = .ok (.iload_n 1, 1) := by decide +kernel
theorem dX12_lists_31 : decode cX12_lists 31 = .ok (.invokevirtual 388, 3) := by decide +kernel
theorem dX12_lists_34 : decode cX12_lists 34 = .ok (.istore 5, 2) := by decide +kernel
theorem dX12_lists_36 : decode cX12_lists 36 = .ok (.iload 5, 2) := by decide +kernel
theorem dX12_lists_38 : decode cX12_lists 38 = .ok (.ifCond .eq 6, 3) := by decide +kernel
theorem dX12_lists_41 : decode cX12_lists 41 = .ok (.iload 5, 2) := by decide +kernel
theorem dX12_lists_43 : decode cX12_lists 43 = .ok (.ireturn, 1) := by decide +kernel
theorem dX12_lists_44 : decode cX12_lists 44 = .ok (.iload 4, 2) := by decide +kernel
theorem dX12_lists_46 : decode cX12_lists 46 = .ok (.i2l, 1) := by decide +kernel
theorem dX12_lists_47 : decode cX12_lists 47 = .ok (.invokestatic 240, 3) := by decide +kernel
theorem dX12_lists_50 : decode cX12_lists 50 = .ok (.ifCond .ne 6, 3) := by decide +kernel
theorem dX12_lists_53 : decode cX12_lists 53 = .ok (.ldc 206, 2) := by decide +kernel
theorem dX12_lists_55 : decode cX12_lists 55 = .ok (.ireturn, 1) := by decide +kernel
theorem dX12_lists_56 : decode cX12_lists 56 = .ok (.aload_n 0, 1) := by decide +kernel
theorem dX12_lists_57 : decode cX12_lists 57 = .ok (.iload_n 2, 1) := by decide +kernel
theorem dX12_lists_58 : decode cX12_lists 58 = .ok (.iload_n 3, 1) := by decide +kernel
theorem dX12_lists_59 : decode cX12_lists 59 = .ok (.iload 4, 2) := by decide +kernel
theorem dX12_lists_61 : decode cX12_lists 61 = .ok (.invokevirtual 323, 3) := by decide +kernel
theorem dX12_lists_64 : decode cX12_lists 64 = .ok (.ifCond .ne 6, 3) := by decide +kernel
theorem dX12_lists_67 : decode cX12_lists 67 = .ok (.ldc 92, 2) := by decide +kernel
theorem dX12_lists_69 : decode cX12_lists 69 = .ok (.ireturn, 1) := by decide +kernel
theorem dX12_lists_70 : decode cX12_lists 70 = .ok (.aload_n 0, 1) := by decide +kernel
theorem dX12_lists_71 : decode cX12_lists 71 = .ok (.getfield 13, 3) := by decide +kernel
theorem dX12_lists_74 : decode cX12_lists 74 = .ok (.bipush 10, 2) := by decide +kernel
theorem dX12_lists_76 : decode cX12_lists 76 = .ok (.iload_n 3, 1) := by decide +kernel
theorem dX12_lists_77 : decode cX12_lists 77 = .ok (.iadd, 1) := by decide +kernel
theorem dX12_lists_78 : decode cX12_lists 78 = .ok (.iaload, 1) := by decide +kernel
theorem dX12_lists_79 : decode cX12_lists 79 = .ok (.aload_n 0, 1) := by decide +kernel
theorem dX12_lists_80 : decode cX12_lists 80 = .ok (.getfield 79, 3) := by decide +kernel
theorem dX12_lists_83 : decode cX12_lists 83 = .ok (.iload_n 1, 1) := by decide +kernel
theorem dX12_lists_84 : decode cX12_lists 84 = .ok (.iaload, 1) := by decide +kernel
theorem dX12_lists_85 : decode cX12_lists 85 = .ok (.if_icmp .ge 15, 3) := by decide +kernel
theorem dX12_lists_88 : decode cX12_lists 88 = .ok (.aload_n 0, 1) := by decide +kernel
theorem dX12_lists_89 : decode cX12_lists 89 = .ok (.getfield 13, 3) := by decide +kernel
theorem dX12_lists_92 : decode cX12_lists 92 = .ok (.bipush 10, 2) := by decide +kernel
theorem dX12_lists_94 : decode cX12_lists 94 = .ok (.iload_n 3, 1) := by decide +kernel
theorem dX12_lists_95 : decode cX12_lists 95 = .ok (.iadd, 1) := by decide +kernel
theorem dX12_lists_96 : decode cX12_lists 96 = .ok (.iaload, 1) := by decide +kernel
theorem dX12_lists_97 : decode cX12_lists 97 = .ok (.goto 9, 3) := by decide +kernel
theorem dX12_lists_100 : decode cX12_lists 100 = .ok (.aload_n 0, 1) := by decide +kernel
theorem dX12_lists_101 : decode cX12_lists 101 = .ok (.getfield 79, 3) := by decide +kernel
theorem dX12_lists_104 : decode cX12_lists 104 = .ok (.iload_n 1, 1) := by decide +kernel
theorem dX12_lists_105 : decode cX12_lists 105 = .ok (.iaload, 1) := by decide +kernel
theorem dX12_lists_106 : decode cX12_lists 106 = .ok (.istore 6, 2) := by decide +kernel
theorem dX12_lists_108 : decode cX12_lists 108 = .ok (.iconst 0, 1) := by decide +kernel
theorem dX12_lists_109 : decode cX12_lists 109 = .ok (.istore 7, 2) := by decide +kernel
theorem dX12_lists_111 : decode cX12_lists 111 = .ok (.iload 7, 2) := by decide +kernel
theorem dX12_lists_113 : decode cX12_lists 113 = .ok (.iload 6, 2) := by decide +kernel
theorem dX12_lists_115 : decode cX12_lists 115 = .ok (.if_icmp .ge 29, 3) := by decide +kernel
theorem dX12_lists_118 : decode cX12_lists 118 = .ok (.aload_n 0, 1) := by decide +kernel
theorem dX12_lists_119 : decode cX12_lists 119 = .ok (.getfield 82, 3) := by decide +kernel
theorem dX12_lists_122 : decode cX12_lists 122 = .ok (.bipush 40, 2) := by decide +kernel
theorem dX12_lists_124 : decode cX12_lists 124 = .ok (.iload_n 1, 1) := by decide +kernel
theorem dX12_lists_125 : decode cX12_lists 125 = .ok (.imul, 1) := by decide +kernel
theorem dX12_lists_126 : decode cX12_lists 126 = .ok (.iload 7, 2) := by decide +kernel
theorem dX12_lists_128 : decode cX12_lists 128 = .ok (.iadd, 1) := by decide +kernel
theorem dX12_lists_129 : decode cX12_lists 129 = .ok (.aload_n 0, 1) := by decide +kernel
theorem dX12_lists_130 : decode cX12_lists 130 = .ok (.getfield 42, 3) := by decide +kernel
theorem dX12_lists_133 : decode cX12_lists 133 = .ok (.iload 7, 2) := by decide +kernel
theorem dX12_lists_135 : decode cX12_lists 135 = .ok (.iaload, 1) := by decide +kernel
theorem dX12_lists_136 : decode cX12_lists 136 = .ok (.i2l, 1) := by decide +kernel
theorem dX12_lists_137 : decode cX12_lists 137 = .ok (.lastore, 1) := by decide +kernel
theorem dX12_lists_138 : decode cX12_lists 138 = .ok (.iinc 7 1, 3) := by decide +kernel
theorem dX12_lists_141 : decode cX12_lists 141 = .ok (.goto (-30), 3) := by decide +kernel
theorem dX12_lists_144 : decode cX12_lists 144 = .ok (.iload 6, 2) := by decide +kernel
theorem dX12_lists_146 : decode cX12_lists 146 = .ok (.ireturn, 1) := by decide +kernel
theorem dX12_image_0 : decode cX12_image 0 = .ok (.aload_n 0, 1) := by decide +kernel
theorem dX12_image_1 : decode cX12_image 1 = .ok (.iconst 0, 1) := by decide +kernel
theorem dX12_image_2 : decode cX12_image 2 = .ok (.putfield 1, 3) := by decide +kernel
theorem dX12_image_5 : decode cX12_image 5 = .ok (.iload_n 1, 1) := by decide +kernel
theorem dX12_image_6 : decode cX12_image 6 = .ok (.i2l, 1) := by decide +kernel
theorem dX12_image_7 : decode cX12_image 7 = .ok (.lconst 0, 1) := by decide +kernel
theorem dX12_image_8 : decode cX12_image 8 = .ok (.lconst 1, 1) := by decide +kernel
theorem dX12_image_9 : decode cX12_image 9 = .ok (.invokestatic 152, 3) := by decide +kernel
theorem dX12_image_12 : decode cX12_image 12 = .ok (.ifCond .ne 6, 3) := by decide +kernel
theorem dX12_image_15 : decode cX12_image 15 = .ok (.ldc 247, 2) := by decide +kernel
theorem dX12_image_17 : decode cX12_image 17 = .ok (.ireturn, 1) := by decide +kernel
theorem dX12_image_18 : decode cX12_image 18 = .ok (.iconst 0, 1) := by decide +kernel
theorem dX12_image_19 : decode cX12_image 19 = .ok (.istore_n 2, 1) := by decide +kernel
theorem dX12_image_20 : decode cX12_image 20 = .ok (.iload_n 2, 1) := by decide +kernel
theorem dX12_image_21 : decode cX12_image 21 = .ok (.sipush 1164, 3) := by decide +kernel
theorem dX12_image_24 : decode cX12_image 24 = .ok (.if_icmp .ge 29, 3) := by decide +kernel
theorem dX12_image_27 : decode cX12_image 27 = .ok (.aload_n 0, 1) := by decide +kernel
theorem dX12_image_28 : decode cX12_image 28 = .ok (.getfield 13, 3) := by decide +kernel
theorem dX12_image_31 : decode cX12_image 31 = .ok (.sipush 1164, 3) := by decide +kernel
theorem dX12_image_34 : decode cX12_image 34 = .ok (.iload_n 1, 1) := by decide +kernel
theorem dX12_image_35 : decode cX12_image 35 = .ok (.iconst 1, 1) := by decide +kernel
theorem dX12_image_36 : decode cX12_image 36 = .ok (.iadd, 1) := by decide +kernel
theorem dX12_image_37 : decode cX12_image 37 = .ok (.imul, 1) := by decide +kernel
theorem dX12_image_38 : decode cX12_image 38 = .ok (.iload_n 2, 1) := by decide +kernel
theorem dX12_image_39 : decode cX12_image 39 = .ok (.iadd, 1) := by decide +kernel
theorem dX12_image_40 : decode cX12_image 40 = .ok (.aload_n 0, 1) := by decide +kernel
theorem dX12_image_41 : decode cX12_image 41 = .ok (.getfield 13, 3) := by decide +kernel
theorem dX12_image_44 : decode cX12_image 44 = .ok (.iload_n 2, 1) := by decide +kernel
theorem dX12_image_45 : decode cX12_image 45 = .ok (.iaload, 1) := by decide +kernel
theorem dX12_image_46 : decode cX12_image 46 = .ok (.iastore, 1) := by decide +kernel
theorem dX12_image_47 : decode cX12_image 47 = .ok (.iinc 2 1, 3) := by decide +kernel
theorem dX12_image_50 : decode cX12_image 50 = .ok (.goto (-30), 3) := by decide +kernel
theorem dX12_image_53 : decode cX12_image 53 = .ok (.aload_n 0, 1) := by decide +kernel
theorem dX12_image_54 : decode cX12_image 54 = .ok (.getfield 17, 3) := by decide +kernel
theorem dX12_image_57 : decode cX12_image 57 = .ok (.iload_n 1, 1) := by decide +kernel
theorem dX12_image_58 : decode cX12_image 58 = .ok (.iconst 1, 1) := by decide +kernel
theorem dX12_image_59 : decode cX12_image 59 = .ok (.bastore, 1) := by decide +kernel
theorem dX12_image_60 : decode cX12_image 60 = .ok (.iconst 0, 1) := by decide +kernel
theorem dX12_image_61 : decode cX12_image 61 = .ok (.ireturn, 1) := by decide +kernel
theorem dX12_restore_0 : decode cX12_restore 0 = .ok (.aload_n 0, 1) := by decide +kernel
theorem dX12_restore_1 : decode cX12_restore 1 = .ok (.iconst 0, 1) := by decide +kernel
theorem dX12_restore_2 : decode cX12_restore 2 = .ok (.putfield 1, 3) := by decide +kernel
theorem dX12_restore_5 : decode cX12_restore 5 = .ok (.iload_n 1, 1) := by decide +kernel
theorem dX12_restore_6 : decode cX12_restore 6 = .ok (.i2l, 1) := by decide +kernel
theorem dX12_restore_7 : decode cX12_restore 7 = .ok (.lconst 0, 1) := by decide +kernel
theorem dX12_restore_8 : decode cX12_restore 8 = .ok (.lconst 1, 1) := by decide +kernel
theorem dX12_restore_9 : decode cX12_restore 9 = .ok (.invokestatic 152, 3) := by decide +kernel
theorem dX12_restore_12 : decode cX12_restore 12 = .ok (.ifCond .ne 6, 3) := by decide +kernel
theorem dX12_restore_15 : decode cX12_restore 15 = .ok (.ldc 247, 2) := by decide +kernel
theorem dX12_restore_17 : decode cX12_restore 17 = .ok (.ireturn, 1) := by decide +kernel
theorem dX12_restore_18 : decode cX12_restore 18 = .ok (.aload_n 0, 1) := by decide +kernel
theorem dX12_restore_19 : decode cX12_restore 19 = .ok (.getfield 17, 3) := by decide +kernel
theorem dX12_restore_22 : decode cX12_restore 22 = .ok (.iload_n 1, 1) := by decide +kernel
theorem dX12_restore_23 : decode cX12_restore 23 = .ok (.baload, 1) := by decide +kernel
theorem dX12_restore_24 : decode cX12_restore 24 = .ok (.ifCond .ne 6, 3) := by decide +kernel
theorem dX12_restore_27 : decode cX12_restore 27 = .ok (.ldc 92, 2) := by decide +kernel
theorem dX12_restore_29 : decode cX12_restore 29 = .ok (.ireturn, 1) := by decide +kernel
theorem dX12_restore_30 : decode cX12_restore 30 = .ok (.iconst 0, 1) := by decide +kernel
theorem dX12_restore_31 : decode cX12_restore 31 = .ok (.istore_n 2, 1) := by decide +kernel
theorem dX12_restore_32 : decode cX12_restore 32 = .ok (.iload_n 2, 1) := by decide +kernel
theorem dX12_restore_33 : decode cX12_restore 33 = .ok (.sipush 1164, 3) := by decide +kernel
theorem dX12_restore_36 : decode cX12_restore 36 = .ok (.if_icmp .ge 29, 3) := by decide +kernel
theorem dX12_restore_39 : decode cX12_restore 39 = .ok (.aload_n 0, 1) := by decide +kernel
theorem dX12_restore_40 : decode cX12_restore 40 = .ok (.getfield 13, 3) := by decide +kernel
theorem dX12_restore_43 : decode cX12_restore 43 = .ok (.iload_n 2, 1) := by decide +kernel
theorem dX12_restore_44 : decode cX12_restore 44 = .ok (.aload_n 0, 1) := by decide +kernel
theorem dX12_restore_45 : decode cX12_restore 45 = .ok (.getfield 13, 3) := by decide +kernel
theorem dX12_restore_48 : decode cX12_restore 48 = .ok (.sipush 1164, 3) := by decide +kernel
theorem dX12_restore_51 : decode cX12_restore 51 = .ok (.iload_n 1, 1) := by decide +kernel
theorem dX12_restore_52 : decode cX12_restore 52 = .ok (.iconst 1, 1) := by decide +kernel
theorem dX12_restore_53 : decode cX12_restore 53 = .ok (.iadd, 1) := by decide +kernel
theorem dX12_restore_54 : decode cX12_restore 54 = .ok (.imul, 1) := by decide +kernel
theorem dX12_restore_55 : decode cX12_restore 55 = .ok (.iload_n 2, 1) := by decide +kernel
theorem dX12_restore_56 : decode cX12_restore 56 = .ok (.iadd, 1) := by decide +kernel
theorem dX12_restore_57 : decode cX12_restore 57 = .ok (.iaload, 1) := by decide +kernel
theorem dX12_restore_58 : decode cX12_restore 58 = .ok (.iastore, 1) := by decide +kernel
theorem dX12_restore_59 : decode cX12_restore 59 = .ok (.iinc 2 1, 3) := by decide +kernel
theorem dX12_restore_62 : decode cX12_restore 62 = .ok (.goto (-30), 3) := by decide +kernel
theorem dX12_restore_65 : decode cX12_restore 65 = .ok (.aload_n 0, 1) := by decide +kernel
theorem dX12_restore_66 : decode cX12_restore 66 = .ok (.getfield 13, 3) := by decide +kernel
theorem dX12_restore_69 : decode cX12_restore 69 = .ok (.bipush 92, 2) := by decide +kernel
theorem dX12_restore_71 : decode cX12_restore 71 = .ok (.iconst 0, 1) := by decide +kernel
theorem dX12_restore_72 : decode cX12_restore 72 = .ok (.iastore, 1) := by decide +kernel
theorem dX12_restore_73 : decode cX12_restore 73 = .ok (.iconst 0, 1) := by decide +kernel
theorem dX12_restore_74 : decode cX12_restore 74 = .ok (.ireturn, 1) := by decide +kernel
theorem dX12_barsAll_0 : decode cX12_barsAll 0 = .ok (.iconst 0, 1) := by decide +kernel
theorem dX12_barsAll_1 : decode cX12_barsAll 1 = .ok (.istore_n 1, 1) := by decide +kernel
theorem dX12_barsAll_2 : decode cX12_barsAll 2 = .ok (.iconst 0, 1) := by decide +kernel
theorem dX12_barsAll_3 : decode cX12_barsAll 3 = .ok (.istore_n 2, 1) := by decide +kernel
theorem dX12_barsAll_4 : decode cX12_barsAll 4 = .ok (.iload_n 2, 1) := by decide +kernel
theorem dX12_barsAll_5 : decode cX12_barsAll 5 = .ok (.aload_n 0, 1) := by decide +kernel
theorem dX12_barsAll_6 : decode cX12_barsAll 6 = .ok (.getfield 13, 3) := by decide +kernel
theorem dX12_barsAll_9 : decode cX12_barsAll 9 = .ok (.iconst 1, 1) := by decide +kernel
theorem dX12_barsAll_10 : decode cX12_barsAll 10 = .ok (.iaload, 1) := by decide +kernel
theorem dX12_barsAll_11 : decode cX12_barsAll 11 = .ok (.if_icmp .ge 21, 3) := by decide +kernel
theorem dX12_barsAll_14 : decode cX12_barsAll 14 = .ok (.iload_n 1, 1) := by decide +kernel
theorem dX12_barsAll_15 : decode cX12_barsAll 15 = .ok (.aload_n 0, 1) := by decide +kernel
theorem dX12_barsAll_16 : decode cX12_barsAll 16 = .ok (.getfield 13, 3) := by decide +kernel
theorem dX12_barsAll_19 : decode cX12_barsAll 19 = .ok (.bipush 10, 2) := by decide +kernel
theorem dX12_barsAll_21 : decode cX12_barsAll 21 = .ok (.iload_n 2, 1) := by decide +kernel
theorem dX12_barsAll_22 : decode cX12_barsAll 22 = .ok (.iadd, 1) := by decide +kernel
theorem dX12_barsAll_23 : decode cX12_barsAll 23 = .ok (.iaload, 1) := by decide +kernel
theorem dX12_barsAll_24 : decode cX12_barsAll 24 = .ok (.iadd, 1) := by decide +kernel
theorem dX12_barsAll_25 : decode cX12_barsAll 25 = .ok (.istore_n 1, 1) := by decide +kernel
theorem dX12_barsAll_26 : decode cX12_barsAll 26 = .ok (.iinc 2 1, 3) := by decide +kernel
theorem dX12_barsAll_29 : decode cX12_barsAll 29 = .ok (.goto (-25), 3) := by decide +kernel
theorem dX12_barsAll_32 : decode cX12_barsAll 32 = .ok (.iload_n 1, 1) := by decide +kernel
theorem dX12_barsAll_33 : decode cX12_barsAll 33 = .ok (.ireturn, 1) := by decide +kernel
theorem dX12_count_0 : decode cX12_count 0 = .ok (.aload_n 0, 1) := by decide +kernel
theorem dX12_count_1 : decode cX12_count 1 = .ok (.iconst 0, 1) := by decide +kernel
theorem dX12_count_2 : decode cX12_count 2 = .ok (.putfield 1, 3) := by decide +kernel
theorem dX12_count_5 : decode cX12_count 5 = .ok (.iload_n 1, 1) := by decide +kernel
theorem dX12_count_6 : decode cX12_count 6 = .ok (.tableswitch 134 0 10 #[58, 65, 72, 77, 84, 91, 99, 107, 114, 122, 127], 58) := by decide +kernel
theorem dX12_count_64 : decode cX12_count 64 = .ok (.aload_n 0, 1) := by decide +kernel
theorem dX12_count_65 : decode cX12_count 65 = .ok (.getfield 13, 3) := by decide +kernel
theorem dX12_count_68 : decode cX12_count 68 = .ok (.iconst 1, 1) := by decide +kernel
theorem dX12_count_69 : decode cX12_count 69 = .ok (.iaload, 1) := by decide +kernel
theorem dX12_count_70 : decode cX12_count 70 = .ok (.ireturn, 1) := by decide +kernel
theorem dX12_count_71 : decode cX12_count 71 = .ok (.aload_n 0, 1) := by decide +kernel
theorem dX12_count_72 : decode cX12_count 72 = .ok (.getfield 13, 3) := by decide +kernel
theorem dX12_count_75 : decode cX12_count 75 = .ok (.iconst 2, 1) := by decide +kernel
theorem dX12_count_76 : decode cX12_count 76 = .ok (.iaload, 1) := by decide +kernel
theorem dX12_count_77 : decode cX12_count 77 = .ok (.ireturn, 1) := by decide +kernel
theorem dX12_count_78 : decode cX12_count 78 = .ok (.aload_n 0, 1) := by decide +kernel
theorem dX12_count_79 : decode cX12_count 79 = .ok (.invokevirtual 511, 3) := by decide +kernel
theorem dX12_count_82 : decode cX12_count 82 = .ok (.ireturn, 1) := by decide +kernel
theorem dX12_count_83 : decode cX12_count 83 = .ok (.aload_n 0, 1) := by decide +kernel
theorem dX12_count_84 : decode cX12_count 84 = .ok (.bipush 77, 2) := by decide +kernel
theorem dX12_count_86 : decode cX12_count 86 = .ok (.invokevirtual 394, 3) := by decide +kernel
theorem dX12_count_89 : decode cX12_count 89 = .ok (.ireturn, 1) := by decide +kernel
theorem dX12_count_90 : decode cX12_count 90 = .ok (.aload_n 0, 1) := by decide +kernel
theorem dX12_count_91 : decode cX12_count 91 = .ok (.bipush 82, 2) := by decide +kernel
theorem dX12_count_93 : decode cX12_count 93 = .ok (.invokevirtual 394, 3) := by decide +kernel
theorem dX12_count_96 : decode cX12_count 96 = .ok (.ireturn, 1) := by decide +kernel
theorem dX12_count_97 : decode cX12_count 97 = .ok (.aload_n 0, 1) := by decide +kernel
theorem dX12_count_98 : decode cX12_count 98 = .ok (.getfield 13, 3) := by decide +kernel
theorem dX12_count_101 : decode cX12_count 101 = .ok (.bipush 75, 2) := by decide +kernel
theorem dX12_count_103 : decode cX12_count 103 = .ok (.iaload, 1) := by decide +kernel
theorem dX12_count_104 : decode cX12_count 104 = .ok (.ireturn, 1) := by decide +kernel
theorem dX12_count_105 : decode cX12_count 105 = .ok (.aload_n 0, 1) := by decide +kernel
theorem dX12_count_106 : decode cX12_count 106 = .ok (.getfield 13, 3) := by decide +kernel
theorem dX12_count_109 : decode cX12_count 109 = .ok (.bipush 76, 2) := by decide +kernel
theorem dX12_count_111 : decode cX12_count 111 = .ok (.iaload, 1) := by decide +kernel
theorem dX12_count_112 : decode cX12_count 112 = .ok (.ireturn, 1) := by decide +kernel
theorem dX12_count_113 : decode cX12_count 113 = .ok (.aload_n 0, 1) := by decide +kernel
theorem dX12_count_114 : decode cX12_count 114 = .ok (.getfield 13, 3) := by decide +kernel
theorem dX12_count_117 : decode cX12_count 117 = .ok (.iconst 3, 1) := by decide +kernel
theorem dX12_count_118 : decode cX12_count 118 = .ok (.iaload, 1) := by decide +kernel
theorem dX12_count_119 : decode cX12_count 119 = .ok (.ireturn, 1) := by decide +kernel
theorem dX12_count_120 : decode cX12_count 120 = .ok (.aload_n 0, 1) := by decide +kernel
theorem dX12_count_121 : decode cX12_count 121 = .ok (.getfield 13, 3) := by decide +kernel
theorem dX12_count_124 : decode cX12_count 124 = .ok (.bipush 92, 2) := by decide +kernel
theorem dX12_count_126 : decode cX12_count 126 = .ok (.iaload, 1) := by decide +kernel
theorem dX12_count_127 : decode cX12_count 127 = .ok (.ireturn, 1) := by decide +kernel
theorem dX12_count_128 : decode cX12_count 128 = .ok (.aload_n 0, 1) := by decide +kernel
theorem dX12_count_129 : decode cX12_count 129 = .ok (.getfield 89, 3) := by decide +kernel
theorem dX12_count_132 : decode cX12_count 132 = .ok (.ireturn, 1) := by decide +kernel
theorem dX12_count_133 : decode cX12_count 133 = .ok (.aload_n 0, 1) := by decide +kernel
theorem dX12_count_134 : decode cX12_count 134 = .ok (.getfield 13, 3) := by decide +kernel
theorem dX12_count_137 : decode cX12_count 137 = .ok (.iconst 0, 1) := by decide +kernel
theorem dX12_count_138 : decode cX12_count 138 = .ok (.iaload, 1) := by decide +kernel
theorem dX12_count_139 : decode cX12_count 139 = .ok (.ireturn, 1) := by decide +kernel
theorem dX12_count_140 : decode cX12_count 140 = .ok (.iconst (-1), 1) := by decide +kernel
theorem dX12_count_141 : decode cX12_count 141 = .ok (.ireturn, 1) := by decide +kernel

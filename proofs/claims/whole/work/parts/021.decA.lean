theorem dX0_init_0 : decode cX0_init 0 = .ok (.aload_n 0, 1) := by decide +kernel
theorem dX0_init_1 : decode cX0_init 1 = .ok (.invokespecial 3, 3) := by decide +kernel
theorem dX0_init_4 : decode cX0_init 4 = .ok (.aload_n 0, 1) := by decide +kernel
theorem dX0_init_5 : decode cX0_init 5 = .ok (.iconst 0, 1) := by decide +kernel
theorem dX0_init_6 : decode cX0_init 6 = .ok (.putfield 9, 3) := by decide +kernel
theorem dX0_init_9 : decode cX0_init 9 = .ok (.aload_n 0, 1) := by decide +kernel
theorem dX0_init_10 : decode cX0_init 10 = .ok (.iconst 0, 1) := by decide +kernel
theorem dX0_init_11 : decode cX0_init 11 = .ok (.putfield 15, 3) := by decide +kernel
theorem dX0_init_14 : decode cX0_init 14 = .ok (.aload_n 0, 1) := by decide +kernel
theorem dX0_init_15 : decode cX0_init 15 = .ok (.iconst 0, 1) := by decide +kernel
theorem dX0_init_16 : decode cX0_init 16 = .ok (.putfield 19, 3) := by decide +kernel
theorem dX0_init_19 : decode cX0_init 19 = .ok (.aload_n 0, 1) := by decide +kernel
theorem dX0_init_20 : decode cX0_init 20 = .ok (.iconst 0, 1) := by decide +kernel
theorem dX0_init_21 : decode cX0_init 21 = .ok (.putfield 22, 3) := by decide +kernel
theorem dX0_init_24 : decode cX0_init 24 = .ok (.aload_n 0, 1) := by decide +kernel
theorem dX0_init_25 : decode cX0_init 25 = .ok (.iconst 0, 1) := by decide +kernel
theorem dX0_init_26 : decode cX0_init 26 = .ok (.putfield 25, 3) := by decide +kernel
theorem dX0_init_29 : decode cX0_init 29 = .ok (.aload_n 0, 1) := by decide +kernel
theorem dX0_init_30 : decode cX0_init 30 = .ok (.iconst 0, 1) := by decide +kernel
theorem dX0_init_31 : decode cX0_init 31 = .ok (.putfield 28, 3) := by decide +kernel
theorem dX0_init_34 : decode cX0_init 34 = .ok (.aload_n 0, 1) := by decide +kernel
theorem dX0_init_35 : decode cX0_init 35 = .ok (.bipush 8, 2) := by decide +kernel
theorem dX0_init_37 : decode cX0_init 37 = .ok (.newarray .int, 2) := by decide +kernel
theorem dX0_init_39 : decode cX0_init 39 = .ok (.putfield 33, 3) := by decide +kernel
theorem dX0_init_42 : decode cX0_init 42 = .ok (.aload_n 0, 1) := by decide +kernel
theorem dX0_init_43 : decode cX0_init 43 = .ok (.bipush 64, 2) := by decide +kernel
theorem dX0_init_45 : decode cX0_init 45 = .ok (.newarray .int, 2) := by decide +kernel
theorem dX0_init_47 : decode cX0_init 47 = .ok (.putfield 39, 3) := by decide +kernel
theorem dX0_init_50 : decode cX0_init 50 = .ok (.aload_n 0, 1) := by decide +kernel
theorem dX0_init_51 : decode cX0_init 51 = .ok (.iconst 4, 1) := by decide +kernel
theorem dX0_init_52 : decode cX0_init 52 = .ok (.anewarray 42, 3) := by decide +kernel
theorem dX0_init_55 : decode cX0_init 55 = .ok (.putfield 44, 3) := by decide +kernel
theorem dX0_init_58 : decode cX0_init 58 = .ok (.aload_n 0, 1) := by decide +kernel
theorem dX0_init_59 : decode cX0_init 59 = .ok (.iconst 4, 1) := by decide +kernel
theorem dX0_init_60 : decode cX0_init 60 = .ok (.newarray .int, 2) := by decide +kernel
theorem dX0_init_62 : decode cX0_init 62 = .ok (.putfield 48, 3) := by decide +kernel
theorem dX0_init_65 : decode cX0_init 65 = .ok (.aload_n 0, 1) := by decide +kernel
theorem dX0_init_66 : decode cX0_init 66 = .ok (.iconst 4, 1) := by decide +kernel
theorem dX0_init_67 : decode cX0_init 67 = .ok (.newarray .int, 2) := by decide +kernel
theorem dX0_init_69 : decode cX0_init 69 = .ok (.putfield 51, 3) := by decide +kernel
theorem dX0_init_72 : decode cX0_init 72 = .ok (.aload_n 0, 1) := by decide +kernel
theorem dX0_init_73 : decode cX0_init 73 = .ok (.iconst 0, 1) := by decide +kernel
theorem dX0_init_74 : decode cX0_init 74 = .ok (.putfield 54, 3) := by decide +kernel
theorem dX0_init_77 : decode cX0_init 77 = .ok (.aload_n 0, 1) := by decide +kernel
theorem dX0_init_78 : decode cX0_init 78 = .ok (.iconst 0, 1) := by decide +kernel
theorem dX0_init_79 : decode cX0_init 79 = .ok (.newarray .long, 2) := by decide +kernel
theorem dX0_init_81 : decode cX0_init 81 = .ok (.putfield 57, 3) := by decide +kernel
theorem dX0_init_84 : decode cX0_init 84 = .ok (.aload_n 0, 1) := by decide +kernel
theorem dX0_init_85 : decode cX0_init 85 = .ok (.iconst 0, 1) := by decide +kernel
theorem dX0_init_86 : decode cX0_init 86 = .ok (.putfield 60, 3) := by decide +kernel
theorem dX0_init_89 : decode cX0_init 89 = .ok (.aload_n 0, 1) := by decide +kernel
theorem dX0_init_90 : decode cX0_init 90 = .ok (.aload_n 1, 1) := by decide +kernel
theorem dX0_init_91 : decode cX0_init 91 = .ok (.putfield 63, 3) := by decide +kernel
theorem dX0_init_94 : decode cX0_init 94 = .ok (.aload_n 0, 1) := by decide +kernel
theorem dX0_init_95 : decode cX0_init 95 = .ok (.getfield 48, 3) := by decide +kernel
theorem dX0_init_98 : decode cX0_init 98 = .ok (.iconst (-1), 1) := by decide +kernel
theorem dX0_init_99 : decode cX0_init 99 = .ok (.invokestatic 67, 3) := by decide +kernel
theorem dX0_init_102 : decode cX0_init 102 = .ok (.return_, 1) := by decide +kernel
theorem dX0_useSheet_0 : decode cX0_useSheet 0 = .ok (.aload_n 0, 1) := by decide +kernel
theorem dX0_useSheet_1 : decode cX0_useSheet 1 = .ok (.aload_n 1, 1) := by decide +kernel
theorem dX0_useSheet_2 : decode cX0_useSheet 2 = .ok (.putfield 63, 3) := by decide +kernel
theorem dX0_useSheet_5 : decode cX0_useSheet 5 = .ok (.aload_n 0, 1) := by decide +kernel
theorem dX0_useSheet_6 : decode cX0_useSheet 6 = .ok (.iconst 0, 1) := by decide +kernel
theorem dX0_useSheet_7 : decode cX0_useSheet 7 = .ok (.putfield 9, 3) := by decide +kernel
theorem dX0_useSheet_10 : decode cX0_useSheet 10 = .ok (.aload_n 0, 1) := by decide +kernel
theorem dX0_useSheet_11 : decode cX0_useSheet 11 = .ok (.aload_n 0, 1) := by decide +kernel
theorem dX0_useSheet_12 : decode cX0_useSheet 12 = .ok (.bipush 6, 2) := by decide +kernel
theorem dX0_useSheet_14 : decode cX0_useSheet 14 = .ok (.invokevirtual 73, 3) := by decide +kernel
theorem dX0_useSheet_17 : decode cX0_useSheet 17 = .ok (.putfield 15, 3) := by decide +kernel
theorem dX0_useSheet_20 : decode cX0_useSheet 20 = .ok (.aload_n 0, 1) := by decide +kernel
theorem dX0_useSheet_21 : decode cX0_useSheet 21 = .ok (.aload_n 0, 1) := by decide +kernel
theorem dX0_useSheet_22 : decode cX0_useSheet 22 = .ok (.bipush 7, 2) := by decide +kernel
theorem dX0_useSheet_24 : decode cX0_useSheet 24 = .ok (.invokevirtual 73, 3) := by decide +kernel
theorem dX0_useSheet_27 : decode cX0_useSheet 27 = .ok (.putfield 19, 3) := by decide +kernel
theorem dX0_useSheet_30 : decode cX0_useSheet 30 = .ok (.aload_n 0, 1) := by decide +kernel
theorem dX0_useSheet_31 : decode cX0_useSheet 31 = .ok (.aload_n 0, 1) := by decide +kernel
theorem dX0_useSheet_32 : decode cX0_useSheet 32 = .ok (.iconst 0, 1) := by decide +kernel
theorem dX0_useSheet_33 : decode cX0_useSheet 33 = .ok (.invokevirtual 73, 3) := by decide +kernel
theorem dX0_useSheet_36 : decode cX0_useSheet 36 = .ok (.putfield 22, 3) := by decide +kernel
theorem dX0_useSheet_39 : decode cX0_useSheet 39 = .ok (.aload_n 0, 1) := by decide +kernel
theorem dX0_useSheet_40 : decode cX0_useSheet 40 = .ok (.aload_n 0, 1) := by decide +kernel
theorem dX0_useSheet_41 : decode cX0_useSheet 41 = .ok (.iconst 1, 1) := by decide +kernel
theorem dX0_useSheet_42 : decode cX0_useSheet 42 = .ok (.invokevirtual 73, 3) := by decide +kernel
theorem dX0_useSheet_45 : decode cX0_useSheet 45 = .ok (.putfield 25, 3) := by decide +kernel
theorem dX0_useSheet_48 : decode cX0_useSheet 48 = .ok (.aload_n 0, 1) := by decide +kernel
theorem dX0_useSheet_49 : decode cX0_useSheet 49 = .ok (.getfield 48, 3) := by decide +kernel
theorem dX0_useSheet_52 : decode cX0_useSheet 52 = .ok (.iconst (-1), 1) := by decide +kernel
theorem dX0_useSheet_53 : decode cX0_useSheet 53 = .ok (.invokestatic 67, 3) := by decide +kernel
theorem dX0_useSheet_56 : decode cX0_useSheet 56 = .ok (.return_, 1) := by decide +kernel
theorem dX0_asksFor_0 : decode cX0_asksFor 0 = .ok (.aload_n 0, 1) := by decide +kernel
theorem dX0_asksFor_1 : decode cX0_asksFor 1 = .ok (.getfield 63, 3) := by decide +kernel
theorem dX0_asksFor_4 : decode cX0_asksFor 4 = .ok (.getfield 77, 3) := by decide +kernel
theorem dX0_asksFor_7 : decode cX0_asksFor 7 = .ok (.iload_n 1, 1) := by decide +kernel
theorem dX0_asksFor_8 : decode cX0_asksFor 8 = .ok (.invokevirtual 83, 3) := by decide +kernel
theorem dX0_asksFor_11 : decode cX0_asksFor 11 = .ok (.ifCond .ne 17, 3) := by decide +kernel
theorem dX0_asksFor_14 : decode cX0_asksFor 14 = .ok (.aload_n 0, 1) := by decide +kernel
theorem dX0_asksFor_15 : decode cX0_asksFor 15 = .ok (.getfield 63, 3) := by decide +kernel
theorem dX0_asksFor_18 : decode cX0_asksFor 18 = .ok (.getfield 84, 3) := by decide +kernel
theorem dX0_asksFor_21 : decode cX0_asksFor 21 = .ok (.iload_n 1, 1) := by decide +kernel
theorem dX0_asksFor_22 : decode cX0_asksFor 22 = .ok (.invokevirtual 83, 3) := by decide +kernel
theorem dX0_asksFor_25 : decode cX0_asksFor 25 = .ok (.ifCond .eq 7, 3) := by decide +kernel
theorem dX0_asksFor_28 : decode cX0_asksFor 28 = .ok (.iconst 1, 1) := by decide +kernel
theorem dX0_asksFor_29 : decode cX0_asksFor 29 = .ok (.goto 4, 3) := by decide +kernel
theorem dX0_asksFor_32 : decode cX0_asksFor 32 = .ok (.iconst 0, 1) := by decide +kernel
theorem dX0_asksFor_33 : decode cX0_asksFor 33 = .ok (.ireturn, 1) := by decide +kernel
theorem dX0_takeUp_0 : decode cX0_takeUp 0 = .ok (.iload_n 3, 1) := by decide +kernel
theorem dX0_takeUp_1 : decode cX0_takeUp 1 = .ok (.ifCond .lt 8, 3) := by decide +kernel
theorem dX0_takeUp_4 : decode cX0_takeUp 4 = .ok (.iload_n 3, 1) := by decide +kernel
theorem dX0_takeUp_5 : decode cX0_takeUp 5 = .ok (.iconst 4, 1) := by decide +kernel
theorem dX0_takeUp_6 : decode cX0_takeUp 6 = .ok (.if_icmp .lt 4, 3) := by decide +kernel
theorem dX0_takeUp_9 : decode cX0_takeUp 9 = .ok (.return_, 1) := by decide +kernel
theorem dX0_takeUp_10 : decode cX0_takeUp 10 = .ok (.aload_n 0, 1) := by decide +kernel
theorem dX0_takeUp_11 : decode cX0_takeUp 11 = .ok (.iload_n 3, 1) := by decide +kernel
theorem dX0_takeUp_12 : decode cX0_takeUp 12 = .ok (.putfield 28, 3) := by decide +kernel
theorem dX0_takeUp_15 : decode cX0_takeUp 15 = .ok (.aload_n 0, 1) := by decide +kernel
theorem dX0_takeUp_16 : decode cX0_takeUp 16 = .ok (.aload_n 0, 1) := by decide +kernel
theorem dX0_takeUp_17 : decode cX0_takeUp 17 = .ok (.getfield 63, 3) := by decide +kernel
theorem dX0_takeUp_20 : decode cX0_takeUp 20 = .ok (.aload_n 0, 1) := by decide +kernel
theorem dX0_takeUp_21 : decode cX0_takeUp 21 = .ok (.getfield 28, 3) := by decide +kernel
theorem dX0_takeUp_24 : decode cX0_takeUp 24 = .ok (.invokevirtual 87, 3) := by decide +kernel
theorem dX0_takeUp_27 : decode cX0_takeUp 27 = .ok (.putfield 9, 3) := by decide +kernel
theorem dX0_takeUp_30 : decode cX0_takeUp 30 = .ok (.aload_n 0, 1) := by decide +kernel
theorem dX0_takeUp_31 : decode cX0_takeUp 31 = .ok (.getfield 33, 3) := by decide +kernel
theorem dX0_takeUp_34 : decode cX0_takeUp 34 = .ok (.iconst 0, 1) := by decide +kernel
theorem dX0_takeUp_35 : decode cX0_takeUp 35 = .ok (.iload_n 1, 1) := by decide +kernel
theorem dX0_takeUp_36 : decode cX0_takeUp 36 = .ok (.iastore, 1) := by decide +kernel
theorem dX0_takeUp_37 : decode cX0_takeUp 37 = .ok (.aload_n 0, 1) := by decide +kernel
theorem dX0_takeUp_38 : decode cX0_takeUp 38 = .ok (.getfield 33, 3) := by decide +kernel
theorem dX0_takeUp_41 : decode cX0_takeUp 41 = .ok (.iconst 1, 1) := by decide +kernel
theorem dX0_takeUp_42 : decode cX0_takeUp 42 = .ok (.iload_n 2, 1) := by decide +kernel
theorem dX0_takeUp_43 : decode cX0_takeUp 43 = .ok (.iastore, 1) := by decide +kernel
theorem dX0_takeUp_44 : decode cX0_takeUp 44 = .ok (.aload_n 0, 1) := by decide +kernel
theorem dX0_takeUp_45 : decode cX0_takeUp 45 = .ok (.getfield 33, 3) := by decide +kernel
theorem dX0_takeUp_48 : decode cX0_takeUp 48 = .ok (.iconst 2, 1) := by decide +kernel
theorem dX0_takeUp_49 : decode cX0_takeUp 49 = .ok (.aload_n 0, 1) := by decide +kernel
theorem dX0_takeUp_50 : decode cX0_takeUp 50 = .ok (.getfield 28, 3) := by decide +kernel
theorem dX0_takeUp_53 : decode cX0_takeUp 53 = .ok (.iastore, 1) := by decide +kernel
theorem dX0_takeUp_54 : decode cX0_takeUp 54 = .ok (.aload_n 0, 1) := by decide +kernel
theorem dX0_takeUp_55 : decode cX0_takeUp 55 = .ok (.bipush 12, 2) := by decide +kernel
theorem dX0_takeUp_57 : decode cX0_takeUp 57 = .ok (.bipush (-20), 2) := by decide +kernel
theorem dX0_takeUp_59 : decode cX0_takeUp 59 = .ok (.bipush (-2), 2) := by decide +kernel
theorem dX0_takeUp_61 : decode cX0_takeUp 61 = .ok (.bipush (-2), 2) := by decide +kernel
theorem dX0_takeUp_63 : decode cX0_takeUp 63 = .ok (.invokevirtual 91, 3) := by decide +kernel
theorem dX0_takeUp_66 : decode cX0_takeUp 66 = .ok (.istore 4, 2) := by decide +kernel
theorem dX0_takeUp_68 : decode cX0_takeUp 68 = .ok (.aload_n 0, 1) := by decide +kernel
theorem dX0_takeUp_69 : decode cX0_takeUp 69 = .ok (.getfield 44, 3) := by decide +kernel
theorem dX0_takeUp_72 : decode cX0_takeUp 72 = .ok (.aload_n 0, 1) := by decide +kernel
theorem dX0_takeUp_73 : decode cX0_takeUp 73 = .ok (.getfield 28, 3) := by decide +kernel
theorem dX0_takeUp_76 : decode cX0_takeUp 76 = .ok (.aaload, 1) := by decide +kernel
theorem dX0_takeUp_77 : decode cX0_takeUp 77 = .ok (.ifnull 18, 3) := by decide +kernel
theorem dX0_takeUp_80 : decode cX0_takeUp 80 = .ok (.aload_n 0, 1) := by decide +kernel
theorem dX0_takeUp_81 : decode cX0_takeUp 81 = .ok (.getfield 44, 3) := by decide +kernel
theorem dX0_takeUp_84 : decode cX0_takeUp 84 = .ok (.aload_n 0, 1) := by decide +kernel
theorem dX0_takeUp_85 : decode cX0_takeUp 85 = .ok (.getfield 28, 3) := by decide +kernel
theorem dX0_takeUp_88 : decode cX0_takeUp 88 = .ok (.aaload, 1) := by decide +kernel
theorem dX0_takeUp_89 : decode cX0_takeUp 89 = .ok (.arraylength, 1) := by decide +kernel
theorem dX0_takeUp_90 : decode cX0_takeUp 90 = .ok (.iload 4, 2) := by decide +kernel
theorem dX0_takeUp_92 : decode cX0_takeUp 92 = .ok (.if_icmp .ge 16, 3) := by decide +kernel
theorem dX0_takeUp_95 : decode cX0_takeUp 95 = .ok (.aload_n 0, 1) := by decide +kernel
theorem dX0_takeUp_96 : decode cX0_takeUp 96 = .ok (.getfield 44, 3) := by decide +kernel
theorem dX0_takeUp_99 : decode cX0_takeUp 99 = .ok (.aload_n 0, 1) := by decide +kernel
theorem dX0_takeUp_100 : decode cX0_takeUp 100 = .ok (.getfield 28, 3) := by decide +kernel
theorem dX0_takeUp_103 : decode cX0_takeUp 103 = .ok (.iload 4, 2) := by decide +kernel
theorem dX0_takeUp_105 : decode cX0_takeUp 105 = .ok (.newarray .long, 2) := by decide +kernel
theorem dX0_takeUp_107 : decode cX0_takeUp 107 = .ok (.aastore, 1) := by decide +kernel
theorem dX0_takeUp_108 : decode cX0_takeUp 108 = .ok (.aload_n 0, 1) := by decide +kernel
theorem dX0_takeUp_109 : decode cX0_takeUp 109 = .ok (.getfield 22, 3) := by decide +kernel
theorem dX0_takeUp_112 : decode cX0_takeUp 112 = .ok (.ifCond .eq 7, 3) := by decide +kernel
theorem dX0_takeUp_115 : decode cX0_takeUp 115 = .ok (.iload_n 1, 1) := by decide +kernel
theorem dX0_takeUp_116 : decode cX0_takeUp 116 = .ok (.goto 4, 3) := by decide +kernel
theorem dX0_takeUp_119 : decode cX0_takeUp 119 = .ok (.iconst 0, 1) := by decide +kernel
theorem dX0_takeUp_120 : decode cX0_takeUp 120 = .ok (.bipush 10, 2) := by decide +kernel
theorem dX0_takeUp_122 : decode cX0_takeUp 122 = .ok (.imul, 1) := by decide +kernel
theorem dX0_takeUp_123 : decode cX0_takeUp 123 = .ok (.aload_n 0, 1) := by decide +kernel
theorem dX0_takeUp_124 : decode cX0_takeUp 124 = .ok (.getfield 25, 3) := by decide +kernel
theorem dX0_takeUp_127 : decode cX0_takeUp 127 = .ok (.ifCond .eq 7, 3) := by decide +kernel
theorem dX0_takeUp_130 : decode cX0_takeUp 130 = .ok (.iload_n 2, 1) := by decide +kernel
theorem dX0_takeUp_131 : decode cX0_takeUp 131 = .ok (.goto 4, 3) := by decide +kernel
theorem dX0_takeUp_134 : decode cX0_takeUp 134 = .ok (.iconst 0, 1) := by decide +kernel
theorem dX0_takeUp_135 : decode cX0_takeUp 135 = .ok (.iadd, 1) := by decide +kernel
theorem dX0_takeUp_136 : decode cX0_takeUp 136 = .ok (.istore 5, 2) := by decide +kernel
theorem dX0_takeUp_138 : decode cX0_takeUp 138 = .ok (.aload_n 0, 1) := by decide +kernel
theorem dX0_takeUp_139 : decode cX0_takeUp 139 = .ok (.getfield 48, 3) := by decide +kernel
theorem dX0_takeUp_142 : decode cX0_takeUp 142 = .ok (.aload_n 0, 1) := by decide +kernel
theorem dX0_takeUp_143 : decode cX0_takeUp 143 = .ok (.getfield 28, 3) := by decide +kernel
theorem dX0_takeUp_146 : decode cX0_takeUp 146 = .ok (.iaload, 1) := by decide +kernel
theorem dX0_takeUp_147 : decode cX0_takeUp 147 = .ok (.iload 5, 2) := by decide +kernel
theorem dX0_takeUp_149 : decode cX0_takeUp 149 = .ok (.if_icmp .eq 37, 3) := by decide +kernel
theorem dX0_takeUp_152 : decode cX0_takeUp 152 = .ok (.aload_n 0, 1) := by decide +kernel
theorem dX0_takeUp_153 : decode cX0_takeUp 153 = .ok (.getfield 48, 3) := by decide +kernel
theorem dX0_takeUp_156 : decode cX0_takeUp 156 = .ok (.aload_n 0, 1) := by decide +kernel
theorem dX0_takeUp_157 : decode cX0_takeUp 157 = .ok (.getfield 28, 3) := by decide +kernel
theorem dX0_takeUp_160 : decode cX0_takeUp 160 = .ok (.iload 5, 2) := by decide +kernel
theorem dX0_takeUp_162 : decode cX0_takeUp 162 = .ok (.iastore, 1) := by decide +kernel
theorem dX0_takeUp_163 : decode cX0_takeUp 163 = .ok (.aload_n 0, 1) := by decide +kernel
theorem dX0_takeUp_164 : decode cX0_takeUp 164 = .ok (.dup, 1) := by decide +kernel
theorem dX0_takeUp_165 : decode cX0_takeUp 165 = .ok (.getfield 54, 3) := by decide +kernel
theorem dX0_takeUp_168 : decode cX0_takeUp 168 = .ok (.iconst 1, 1) := by decide +kernel
theorem dX0_takeUp_169 : decode cX0_takeUp 169 = .ok (.iadd, 1) := by decide +kernel
theorem dX0_takeUp_170 : decode cX0_takeUp 170 = .ok (.putfield 54, 3) := by decide +kernel
theorem dX0_takeUp_173 : decode cX0_takeUp 173 = .ok (.aload_n 0, 1) := by decide +kernel
theorem dX0_takeUp_174 : decode cX0_takeUp 174 = .ok (.getfield 51, 3) := by decide +kernel
theorem dX0_takeUp_177 : decode cX0_takeUp 177 = .ok (.aload_n 0, 1) := by decide +kernel
theorem dX0_takeUp_178 : decode cX0_takeUp 178 = .ok (.getfield 28, 3) := by decide +kernel
theorem dX0_takeUp_181 : decode cX0_takeUp 181 = .ok (.aload_n 0, 1) := by decide +kernel
theorem dX0_takeUp_182 : decode cX0_takeUp 182 = .ok (.getfield 54, 3) := by decide +kernel
theorem dX0_takeUp_185 : decode cX0_takeUp 185 = .ok (.iastore, 1) := by decide +kernel
theorem dX0_takeUp_186 : decode cX0_takeUp 186 = .ok (.aload_n 0, 1) := by decide +kernel
theorem dX0_takeUp_187 : decode cX0_takeUp 187 = .ok (.aload_n 0, 1) := by decide +kernel
theorem dX0_takeUp_188 : decode cX0_takeUp 188 = .ok (.getfield 44, 3) := by decide +kernel
theorem dX0_takeUp_191 : decode cX0_takeUp 191 = .ok (.aload_n 0, 1) := by decide +kernel
theorem dX0_takeUp_192 : decode cX0_takeUp 192 = .ok (.getfield 28, 3) := by decide +kernel
theorem dX0_takeUp_195 : decode cX0_takeUp 195 = .ok (.aaload, 1) := by decide +kernel
theorem dX0_takeUp_196 : decode cX0_takeUp 196 = .ok (.putfield 57, 3) := by decide +kernel
theorem dX0_takeUp_199 : decode cX0_takeUp 199 = .ok (.aload_n 0, 1) := by decide +kernel
theorem dX0_takeUp_200 : decode cX0_takeUp 200 = .ok (.aload_n 0, 1) := by decide +kernel
theorem dX0_takeUp_201 : decode cX0_takeUp 201 = .ok (.getfield 51, 3) := by decide +kernel
theorem dX0_takeUp_204 : decode cX0_takeUp 204 = .ok (.aload_n 0, 1) := by decide +kernel
theorem dX0_takeUp_205 : decode cX0_takeUp 205 = .ok (.getfield 28, 3) := by decide +kernel
theorem dX0_takeUp_208 : decode cX0_takeUp 208 = .ok (.iaload, 1) := by decide +kernel
theorem dX0_takeUp_209 : decode cX0_takeUp 209 = .ok (.putfield 60, 3) := by decide +kernel
theorem dX0_takeUp_212 : decode cX0_takeUp 212 = .ok (.return_, 1) := by decide +kernel
theorem dX0_gladBy_0 : decode cX0_gladBy 0 = .ok (.aload_n 0, 1) := by decide +kernel
theorem dX0_gladBy_1 : decode cX0_gladBy 1 = .ok (.iload_n 1, 1) := by decide +kernel
theorem dX0_gladBy_2 : decode cX0_gladBy 2 = .ok (.iload_n 2, 1) := by decide +kernel
theorem dX0_gladBy_3 : decode cX0_gladBy 3 = .ok (.iload_n 3, 1) := by decide +kernel
theorem dX0_gladBy_4 : decode cX0_gladBy 4 = .ok (.iload 4, 2) := by decide +kernel
theorem dX0_gladBy_6 : decode cX0_gladBy 6 = .ok (.invokevirtual 95, 3) := by decide +kernel
theorem dX0_gladBy_9 : decode cX0_gladBy 9 = .ok (.aload_n 0, 1) := by decide +kernel
theorem dX0_gladBy_10 : decode cX0_gladBy 10 = .ok (.getfield 63, 3) := by decide +kernel
theorem dX0_gladBy_13 : decode cX0_gladBy 13 = .ok (.getfield 77, 3) := by decide +kernel
theorem dX0_gladBy_16 : decode cX0_gladBy 16 = .ok (.invokevirtual 99, 3) := by decide +kernel
theorem dX0_gladBy_19 : decode cX0_gladBy 19 = .ok (.ifCond .eq 24, 3) := by decide +kernel
theorem dX0_gladBy_22 : decode cX0_gladBy 22 = .ok (.aload_n 0, 1) := by decide +kernel
theorem dX0_gladBy_23 : decode cX0_gladBy 23 = .ok (.getfield 63, 3) := by decide +kernel
theorem dX0_gladBy_26 : decode cX0_gladBy 26 = .ok (.getfield 77, 3) := by decide +kernel
theorem dX0_gladBy_29 : decode cX0_gladBy 29 = .ok (.aload_n 0, 1) := by decide +kernel
theorem dX0_gladBy_30 : decode cX0_gladBy 30 = .ok (.getfield 33, 3) := by decide +kernel
theorem dX0_gladBy_33 : decode cX0_gladBy 33 = .ok (.aload_n 0, 1) := by decide +kernel
theorem dX0_gladBy_34 : decode cX0_gladBy 34 = .ok (.getfield 39, 3) := by decide +kernel
theorem dX0_gladBy_37 : decode cX0_gladBy 37 = .ok (.invokevirtual 103, 3) := by decide +kernel
theorem dX0_gladBy_40 : decode cX0_gladBy 40 = .ok (.goto 12, 3) := by decide +kernel
theorem dX0_gladBy_43 : decode cX0_gladBy 43 = .ok (.aload_n 0, 1) := by decide +kernel
theorem dX0_gladBy_44 : decode cX0_gladBy 44 = .ok (.getfield 33, 3) := by decide +kernel
theorem dX0_gladBy_47 : decode cX0_gladBy 47 = .ok (.iconst 4, 1) := by decide +kernel
theorem dX0_gladBy_48 : decode cX0_gladBy 48 = .ok (.iaload, 1) := by decide +kernel
theorem dX0_gladBy_49 : decode cX0_gladBy 49 = .ok (.iload 4, 2) := by decide +kernel
theorem dX0_gladBy_51 : decode cX0_gladBy 51 = .ok (.imul, 1) := by decide +kernel
theorem dX0_gladBy_52 : decode cX0_gladBy 52 = .ok (.ireturn, 1) := by decide +kernel
theorem dX0_gladAt_0 : decode cX0_gladAt 0 = .ok (.iload_n 2, 1) := by decide +kernel
theorem dX0_gladAt_1 : decode cX0_gladAt 1 = .ok (.iload 4, 2) := by decide +kernel
theorem dX0_gladAt_3 : decode cX0_gladAt 3 = .ok (.isub, 1) := by decide +kernel
theorem dX0_gladAt_4 : decode cX0_gladAt 4 = .ok (.istore 5, 2) := by decide +kernel
theorem dX0_gladAt_6 : decode cX0_gladAt 6 = .ok (.aload_n 0, 1) := by decide +kernel
theorem dX0_gladAt_7 : decode cX0_gladAt 7 = .ok (.iload_n 1, 1) := by decide +kernel
theorem dX0_gladAt_8 : decode cX0_gladAt 8 = .ok (.iload_n 2, 1) := by decide +kernel
theorem dX0_gladAt_9 : decode cX0_gladAt 9 = .ok (.iload_n 3, 1) := by decide +kernel
theorem dX0_gladAt_10 : decode cX0_gladAt 10 = .ok (.iload 4, 2) := by decide +kernel
theorem dX0_gladAt_12 : decode cX0_gladAt 12 = .ok (.invokevirtual 91, 3) := by decide +kernel
theorem dX0_gladAt_15 : decode cX0_gladAt 15 = .ok (.istore 6, 2) := by decide +kernel
theorem dX0_gladAt_17 : decode cX0_gladAt 17 = .ok (.iload 5, 2) := by decide +kernel
theorem dX0_gladAt_19 : decode cX0_gladAt 19 = .ok (.bipush (-20), 2) := by decide +kernel
theorem dX0_gladAt_21 : decode cX0_gladAt 21 = .ok (.if_icmp .lt 25, 3) := by decide +kernel
theorem dX0_gladAt_24 : decode cX0_gladAt 24 = .ok (.iload 5, 2) := by decide +kernel
theorem dX0_gladAt_26 : decode cX0_gladAt 26 = .ok (.bipush 20, 2) := by decide +kernel
theorem dX0_gladAt_28 : decode cX0_gladAt 28 = .ok (.if_icmp .gt 18, 3) := by decide +kernel
theorem dX0_gladAt_31 : decode cX0_gladAt 31 = .ok (.iload 6, 2) := by decide +kernel
theorem dX0_gladAt_33 : decode cX0_gladAt 33 = .ok (.ifCond .lt 13, 3) := by decide +kernel
theorem dX0_gladAt_36 : decode cX0_gladAt 36 = .ok (.iload 6, 2) := by decide +kernel
theorem dX0_gladAt_38 : decode cX0_gladAt 38 = .ok (.aload_n 0, 1) := by decide +kernel
theorem dX0_gladAt_39 : decode cX0_gladAt 39 = .ok (.getfield 57, 3) := by decide +kernel
theorem dX0_gladAt_42 : decode cX0_gladAt 42 = .ok (.arraylength, 1) := by decide +kernel
theorem dX0_gladAt_43 : decode cX0_gladAt 43 = .ok (.if_icmp .lt 6, 3) := by decide +kernel
theorem dX0_gladAt_46 : decode cX0_gladAt 46 = .ok (.ldc 107, 2) := by decide +kernel
theorem dX0_gladAt_48 : decode cX0_gladAt 48 = .ok (.ireturn, 1) := by decide +kernel
theorem dX0_gladAt_49 : decode cX0_gladAt 49 = .ok (.aload_n 0, 1) := by decide +kernel
theorem dX0_gladAt_50 : decode cX0_gladAt 50 = .ok (.getfield 57, 3) := by decide +kernel
theorem dX0_gladAt_53 : decode cX0_gladAt 53 = .ok (.iload 6, 2) := by decide +kernel
theorem dX0_gladAt_55 : decode cX0_gladAt 55 = .ok (.laload, 1) := by decide +kernel
theorem dX0_gladAt_56 : decode cX0_gladAt 56 = .ok (.lstore 7, 2) := by decide +kernel
theorem dX0_gladAt_58 : decode cX0_gladAt 58 = .ok (.lload 7, 2) := by decide +kernel
theorem dX0_gladAt_60 : decode cX0_gladAt 60 = .ok (.bipush 32, 2) := by decide +kernel
theorem dX0_gladAt_62 : decode cX0_gladAt 62 = .ok (.lushr, 1) := by decide +kernel
theorem dX0_gladAt_63 : decode cX0_gladAt 63 = .ok (.l2i, 1) := by decide +kernel
theorem dX0_gladAt_64 : decode cX0_gladAt 64 = .ok (.aload_n 0, 1) := by decide +kernel
theorem dX0_gladAt_65 : decode cX0_gladAt 65 = .ok (.getfield 60, 3) := by decide +kernel
theorem dX0_gladAt_68 : decode cX0_gladAt 68 = .ok (.if_icmp .ne 7, 3) := by decide +kernel
theorem dX0_gladAt_71 : decode cX0_gladAt 71 = .ok (.lload 7, 2) := by decide +kernel
theorem dX0_gladAt_73 : decode cX0_gladAt 73 = .ok (.l2i, 1) := by decide +kernel
theorem dX0_gladAt_74 : decode cX0_gladAt 74 = .ok (.ireturn, 1) := by decide +kernel
theorem dX0_gladAt_75 : decode cX0_gladAt 75 = .ok (.aload_n 0, 1) := by decide +kernel
theorem dX0_gladAt_76 : decode cX0_gladAt 76 = .ok (.iload_n 1, 1) := by decide +kernel
theorem dX0_gladAt_77 : decode cX0_gladAt 77 = .ok (.iload_n 2, 1) := by decide +kernel
theorem dX0_gladAt_78 : decode cX0_gladAt 78 = .ok (.iload_n 3, 1) := by decide +kernel
theorem dX0_gladAt_79 : decode cX0_gladAt 79 = .ok (.iload 4, 2) := by decide +kernel
theorem dX0_gladAt_81 : decode cX0_gladAt 81 = .ok (.invokevirtual 95, 3) := by decide +kernel
theorem dX0_gladAt_84 : decode cX0_gladAt 84 = .ok (.aload_n 0, 1) := by decide +kernel
theorem dX0_gladAt_85 : decode cX0_gladAt 85 = .ok (.getfield 33, 3) := by decide +kernel
theorem dX0_gladAt_88 : decode cX0_gladAt 88 = .ok (.iconst 4, 1) := by decide +kernel
theorem dX0_gladAt_89 : decode cX0_gladAt 89 = .ok (.iaload, 1) := by decide +kernel
theorem dX0_gladAt_90 : decode cX0_gladAt 90 = .ok (.iload 4, 2) := by decide +kernel
theorem dX0_gladAt_92 : decode cX0_gladAt 92 = .ok (.imul, 1) := by decide +kernel
theorem dX0_gladAt_93 : decode cX0_gladAt 93 = .ok (.istore 9, 2) := by decide +kernel
theorem dX0_gladAt_95 : decode cX0_gladAt 95 = .ok (.aload_n 0, 1) := by decide +kernel
theorem dX0_gladAt_96 : decode cX0_gladAt 96 = .ok (.getfield 63, 3) := by decide +kernel
theorem dX0_gladAt_99 : decode cX0_gladAt 99 = .ok (.getfield 84, 3) := by decide +kernel
theorem dX0_gladAt_102 : decode cX0_gladAt 102 = .ok (.invokevirtual 99, 3) := by decide +kernel
theorem dX0_gladAt_105 : decode cX0_gladAt 105 = .ok (.ifCond .eq 31, 3) := by decide +kernel
theorem dX0_gladAt_108 : decode cX0_gladAt 108 = .ok (.aload_n 0, 1) := by decide +kernel
theorem dX0_gladAt_109 : decode cX0_gladAt 109 = .ok (.getfield 63, 3) := by decide +kernel
theorem dX0_gladAt_112 : decode cX0_gladAt 112 = .ok (.getfield 84, 3) := by decide +kernel
theorem dX0_gladAt_115 : decode cX0_gladAt 115 = .ok (.aload_n 0, 1) := by decide +kernel
theorem dX0_gladAt_116 : decode cX0_gladAt 116 = .ok (.getfield 33, 3) := by decide +kernel
theorem dX0_gladAt_119 : decode cX0_gladAt 119 = .ok (.aload_n 0, 1) := by decide +kernel
theorem dX0_gladAt_120 : decode cX0_gladAt 120 = .ok (.getfield 39, 3) := by decide +kernel
theorem dX0_gladAt_123 : decode cX0_gladAt 123 = .ok (.invokevirtual 103, 3) := by decide +kernel
theorem dX0_gladAt_126 : decode cX0_gladAt 126 = .ok (.ifCond .ne 10, 3) := by decide +kernel
theorem dX0_gladAt_129 : decode cX0_gladAt 129 = .ok (.ldc 107, 2) := by decide +kernel
theorem dX0_gladAt_131 : decode cX0_gladAt 131 = .ok (.istore 9, 2) := by decide +kernel
theorem dX0_gladAt_133 : decode cX0_gladAt 133 = .ok (.goto 36, 3) := by decide +kernel
theorem dX0_gladAt_136 : decode cX0_gladAt 136 = .ok (.aload_n 0, 1) := by decide +kernel
theorem dX0_gladAt_137 : decode cX0_gladAt 137 = .ok (.getfield 63, 3) := by decide +kernel
theorem dX0_gladAt_140 : decode cX0_gladAt 140 = .ok (.getfield 77, 3) := by decide +kernel
theorem dX0_gladAt_143 : decode cX0_gladAt 143 = .ok (.invokevirtual 99, 3) := by decide +kernel
theorem dX0_gladAt_146 : decode cX0_gladAt 146 = .ok (.ifCond .eq 23, 3) := by decide +kernel
theorem dX0_gladAt_149 : decode cX0_gladAt 149 = .ok (.aload_n 0, 1) := by decide +kernel
theorem dX0_gladAt_150 : decode cX0_gladAt 150 = .ok (.getfield 63, 3) := by decide +kernel
theorem dX0_gladAt_153 : decode cX0_gladAt 153 = .ok (.getfield 77, 3) := by decide +kernel
theorem dX0_gladAt_156 : decode cX0_gladAt 156 = .ok (.aload_n 0, 1) := by decide +kernel
theorem dX0_gladAt_157 : decode cX0_gladAt 157 = .ok (.getfield 33, 3) := by decide +kernel
theorem dX0_gladAt_160 : decode cX0_gladAt 160 = .ok (.aload_n 0, 1) := by decide +kernel
theorem dX0_gladAt_161 : decode cX0_gladAt 161 = .ok (.getfield 39, 3) := by decide +kernel
theorem dX0_gladAt_164 : decode cX0_gladAt 164 = .ok (.invokevirtual 103, 3) := by decide +kernel
theorem dX0_gladAt_167 : decode cX0_gladAt 167 = .ok (.istore 9, 2) := by decide +kernel
theorem dX0_gladAt_169 : decode cX0_gladAt 169 = .ok (.aload_n 0, 1) := by decide +kernel
theorem dX0_gladAt_170 : decode cX0_gladAt 170 = .ok (.getfield 57, 3) := by decide +kernel
theorem dX0_gladAt_173 : decode cX0_gladAt 173 = .ok (.iload 6, 2) := by decide +kernel
theorem dX0_gladAt_175 : decode cX0_gladAt 175 = .ok (.aload_n 0, 1) := by decide +kernel
theorem dX0_gladAt_176 : decode cX0_gladAt 176 = .ok (.getfield 60, 3) := by decide +kernel
theorem dX0_gladAt_179 : decode cX0_gladAt 179 = .ok (.i2l, 1) := by decide +kernel
theorem dX0_gladAt_180 : decode cX0_gladAt 180 = .ok (.bipush 32, 2) := by decide +kernel
theorem dX0_gladAt_182 : decode cX0_gladAt 182 = .ok (.lshl, 1) := by decide +kernel
theorem dX0_gladAt_183 : decode cX0_gladAt 183 = .ok (.iload 9, 2) := by decide +kernel
theorem dX0_gladAt_185 : decode cX0_gladAt 185 = .ok (.i2l, 1) := by decide +kernel
theorem dX0_gladAt_186 : decode cX0_gladAt 186 = .ok (.ldc2_w 108, 3) := by decide +kernel
theorem dX0_gladAt_189 : decode cX0_gladAt 189 = .ok (.land, 1) := by decide +kernel
theorem dX0_gladAt_190 : decode cX0_gladAt 190 = .ok (.lor, 1) := by decide +kernel
theorem dX0_gladAt_191 : decode cX0_gladAt 191 = .ok (.lastore, 1) := by decide +kernel
theorem dX0_gladAt_192 : decode cX0_gladAt 192 = .ok (.iload 9, 2) := by decide +kernel
theorem dX0_gladAt_194 : decode cX0_gladAt 194 = .ok (.ireturn, 1) := by decide +kernel
theorem dX0_cellOf_0 : decode cX0_cellOf 0 = .ok (.iload_n 1, 1) := by decide +kernel
theorem dX0_cellOf_1 : decode cX0_cellOf 1 = .ok (.istore 5, 2) := by decide +kernel
theorem dX0_cellOf_3 : decode cX0_cellOf 3 = .ok (.aload_n 0, 1) := by decide +kernel
theorem dX0_cellOf_4 : decode cX0_cellOf 4 = .ok (.getfield 19, 3) := by decide +kernel
theorem dX0_cellOf_7 : decode cX0_cellOf 7 = .ok (.ifCond .eq 15, 3) := by decide +kernel
theorem dX0_cellOf_10 : decode cX0_cellOf 10 = .ok (.iload 5, 2) := by decide +kernel
theorem dX0_cellOf_12 : decode cX0_cellOf 12 = .ok (.bipush 41, 2) := by decide +kernel
theorem dX0_cellOf_14 : decode cX0_cellOf 14 = .ok (.imul, 1) := by decide +kernel
theorem dX0_cellOf_15 : decode cX0_cellOf 15 = .ok (.iload_n 2, 1) := by decide +kernel
theorem dX0_cellOf_16 : decode cX0_cellOf 16 = .ok (.iadd, 1) := by decide +kernel
theorem dX0_cellOf_17 : decode cX0_cellOf 17 = .ok (.bipush 20, 2) := by decide +kernel
theorem dX0_cellOf_19 : decode cX0_cellOf 19 = .ok (.iadd, 1) := by decide +kernel
theorem dX0_cellOf_20 : decode cX0_cellOf 20 = .ok (.istore 5, 2) := by decide +kernel
theorem dX0_cellOf_22 : decode cX0_cellOf 22 = .ok (.aload_n 0, 1) := by decide +kernel
theorem dX0_cellOf_23 : decode cX0_cellOf 23 = .ok (.getfield 15, 3) := by decide +kernel
theorem dX0_cellOf_26 : decode cX0_cellOf 26 = .ok (.ifCond .eq 13, 3) := by decide +kernel
theorem dX0_cellOf_29 : decode cX0_cellOf 29 = .ok (.iload 5, 2) := by decide +kernel
theorem dX0_cellOf_31 : decode cX0_cellOf 31 = .ok (.iconst 5, 1) := by decide +kernel
theorem dX0_cellOf_32 : decode cX0_cellOf 32 = .ok (.imul, 1) := by decide +kernel
theorem dX0_cellOf_33 : decode cX0_cellOf 33 = .ok (.iload_n 3, 1) := by decide +kernel
theorem dX0_cellOf_34 : decode cX0_cellOf 34 = .ok (.iadd, 1) := by decide +kernel
theorem dX0_cellOf_35 : decode cX0_cellOf 35 = .ok (.iconst 2, 1) := by decide +kernel
theorem dX0_cellOf_36 : decode cX0_cellOf 36 = .ok (.iadd, 1) := by decide +kernel
theorem dX0_cellOf_37 : decode cX0_cellOf 37 = .ok (.istore 5, 2) := by decide +kernel
theorem dX0_cellOf_39 : decode cX0_cellOf 39 = .ok (.iload 5, 2) := by decide +kernel
theorem dX0_cellOf_41 : decode cX0_cellOf 41 = .ok (.iconst 5, 1) := by decide +kernel
theorem dX0_cellOf_42 : decode cX0_cellOf 42 = .ok (.imul, 1) := by decide +kernel
theorem dX0_cellOf_43 : decode cX0_cellOf 43 = .ok (.iload 4, 2) := by decide +kernel
theorem dX0_cellOf_45 : decode cX0_cellOf 45 = .ok (.iadd, 1) := by decide +kernel
theorem dX0_cellOf_46 : decode cX0_cellOf 46 = .ok (.iconst 2, 1) := by decide +kernel
theorem dX0_cellOf_47 : decode cX0_cellOf 47 = .ok (.iadd, 1) := by decide +kernel
theorem dX0_cellOf_48 : decode cX0_cellOf 48 = .ok (.ireturn, 1) := by decide +kernel
theorem dX0_see_0 : decode cX0_see 0 = .ok (.aload_n 0, 1) := by decide +kernel
theorem dX0_see_1 : decode cX0_see 1 = .ok (.getfield 33, 3) := by decide +kernel
theorem dX0_see_4 : decode cX0_see 4 = .ok (.iconst 3, 1) := by decide +kernel
theorem dX0_see_5 : decode cX0_see 5 = .ok (.iload_n 1, 1) := by decide +kernel
theorem dX0_see_6 : decode cX0_see 6 = .ok (.iastore, 1) := by decide +kernel
theorem dX0_see_7 : decode cX0_see 7 = .ok (.aload_n 0, 1) := by decide +kernel
theorem dX0_see_8 : decode cX0_see 8 = .ok (.getfield 28, 3) := by decide +kernel
theorem dX0_see_11 : decode cX0_see 11 = .ok (.bipush 12, 2) := by decide +kernel
theorem dX0_see_13 : decode cX0_see 13 = .ok (.imul, 1) := by decide +kernel
theorem dX0_see_14 : decode cX0_see 14 = .ok (.iload_n 1, 1) := by decide +kernel
theorem dX0_see_15 : decode cX0_see 15 = .ok (.iadd, 1) := by decide +kernel
theorem dX0_see_16 : decode cX0_see 16 = .ok (.istore 5, 2) := by decide +kernel
theorem dX0_see_18 : decode cX0_see 18 = .ok (.aload_n 0, 1) := by decide +kernel
theorem dX0_see_19 : decode cX0_see 19 = .ok (.getfield 33, 3) := by decide +kernel
theorem dX0_see_22 : decode cX0_see 22 = .ok (.iconst 4, 1) := by decide +kernel
theorem dX0_see_23 : decode cX0_see 23 = .ok (.iload 5, 2) := by decide +kernel
theorem dX0_see_25 : decode cX0_see 25 = .ok (.ifCond .lt 29, 3) := by decide +kernel
theorem dX0_see_28 : decode cX0_see 28 = .ok (.iload 5, 2) := by decide +kernel
theorem dX0_see_30 : decode cX0_see 30 = .ok (.aload_n 0, 1) := by decide +kernel
theorem dX0_see_31 : decode cX0_see 31 = .ok (.getfield 63, 3) := by decide +kernel
theorem dX0_see_34 : decode cX0_see 34 = .ok (.getfield 110, 3) := by decide +kernel
theorem dX0_see_37 : decode cX0_see 37 = .ok (.arraylength, 1) := by decide +kernel
theorem dX0_see_38 : decode cX0_see 38 = .ok (.if_icmp .ge 16, 3) := by decide +kernel
theorem dX0_see_41 : decode cX0_see 41 = .ok (.aload_n 0, 1) := by decide +kernel
theorem dX0_see_42 : decode cX0_see 42 = .ok (.getfield 63, 3) := by decide +kernel
theorem dX0_see_45 : decode cX0_see 45 = .ok (.getfield 110, 3) := by decide +kernel
theorem dX0_see_48 : decode cX0_see 48 = .ok (.iload 5, 2) := by decide +kernel
theorem dX0_see_50 : decode cX0_see 50 = .ok (.iaload, 1) := by decide +kernel
theorem dX0_see_51 : decode cX0_see 51 = .ok (.goto 4, 3) := by decide +kernel
theorem dX0_see_54 : decode cX0_see 54 = .ok (.iconst 0, 1) := by decide +kernel
theorem dX0_see_55 : decode cX0_see 55 = .ok (.iastore, 1) := by decide +kernel
theorem dX0_see_56 : decode cX0_see 56 = .ok (.aload_n 0, 1) := by decide +kernel
theorem dX0_see_57 : decode cX0_see 57 = .ok (.getfield 33, 3) := by decide +kernel
theorem dX0_see_60 : decode cX0_see 60 = .ok (.iconst 5, 1) := by decide +kernel
theorem dX0_see_61 : decode cX0_see 61 = .ok (.iload 4, 2) := by decide +kernel
theorem dX0_see_63 : decode cX0_see 63 = .ok (.iastore, 1) := by decide +kernel
theorem dX0_see_64 : decode cX0_see 64 = .ok (.aload_n 0, 1) := by decide +kernel
theorem dX0_see_65 : decode cX0_see 65 = .ok (.getfield 33, 3) := by decide +kernel
theorem dX0_see_68 : decode cX0_see 68 = .ok (.bipush 6, 2) := by decide +kernel
theorem dX0_see_70 : decode cX0_see 70 = .ok (.iload_n 3, 1) := by decide +kernel
theorem dX0_see_71 : decode cX0_see 71 = .ok (.iastore, 1) := by decide +kernel
theorem dX0_see_72 : decode cX0_see 72 = .ok (.aload_n 0, 1) := by decide +kernel
theorem dX0_see_73 : decode cX0_see 73 = .ok (.getfield 33, 3) := by decide +kernel
theorem dX0_see_76 : decode cX0_see 76 = .ok (.bipush 7, 2) := by decide +kernel
theorem dX0_see_78 : decode cX0_see 78 = .ok (.iload_n 2, 1) := by decide +kernel
theorem dX0_see_79 : decode cX0_see 79 = .ok (.iastore, 1) := by decide +kernel
theorem dX0_see_80 : decode cX0_see 80 = .ok (.return_, 1) := by decide +kernel
theorem dX0_comingDraw_0 : decode cX0_comingDraw 0 = .ok (.ldc 107, 2) := by decide +kernel
theorem dX0_comingDraw_2 : decode cX0_comingDraw 2 = .ok (.istore 4, 2) := by decide +kernel
theorem dX0_comingDraw_4 : decode cX0_comingDraw 4 = .ok (.bipush 9, 2) := by decide +kernel
theorem dX0_comingDraw_6 : decode cX0_comingDraw 6 = .ok (.istore 5, 2) := by decide +kernel
theorem dX0_comingDraw_8 : decode cX0_comingDraw 8 = .ok (.bipush (-2), 2) := by decide +kernel
theorem dX0_comingDraw_10 : decode cX0_comingDraw 10 = .ok (.istore 6, 2) := by decide +kernel
theorem dX0_comingDraw_12 : decode cX0_comingDraw 12 = .ok (.iload 6, 2) := by decide +kernel
theorem dX0_comingDraw_14 : decode cX0_comingDraw 14 = .ok (.iconst 2, 1) := by decide +kernel
theorem dX0_comingDraw_15 : decode cX0_comingDraw 15 = .ok (.if_icmp .gt 35, 3) := by decide +kernel
theorem dX0_comingDraw_18 : decode cX0_comingDraw 18 = .ok (.aload_n 0, 1) := by decide +kernel
theorem dX0_comingDraw_19 : decode cX0_comingDraw 19 = .ok (.iload_n 1, 1) := by decide +kernel
theorem dX0_comingDraw_20 : decode cX0_comingDraw 20 = .ok (.iload_n 2, 1) := by decide +kernel
theorem dX0_comingDraw_21 : decode cX0_comingDraw 21 = .ok (.iload_n 3, 1) := by decide +kernel
theorem dX0_comingDraw_22 : decode cX0_comingDraw 22 = .ok (.iload 6, 2) := by decide +kernel
theorem dX0_comingDraw_24 : decode cX0_comingDraw 24 = .ok (.invokevirtual 113, 3) := by decide +kernel
theorem dX0_comingDraw_27 : decode cX0_comingDraw 27 = .ok (.istore 7, 2) := by decide +kernel
theorem dX0_comingDraw_29 : decode cX0_comingDraw 29 = .ok (.iload 7, 2) := by decide +kernel
theorem dX0_comingDraw_31 : decode cX0_comingDraw 31 = .ok (.iload 4, 2) := by decide +kernel
theorem dX0_comingDraw_33 : decode cX0_comingDraw 33 = .ok (.if_icmp .le 11, 3) := by decide +kernel
theorem dX0_comingDraw_36 : decode cX0_comingDraw 36 = .ok (.iload 7, 2) := by decide +kernel
theorem dX0_comingDraw_38 : decode cX0_comingDraw 38 = .ok (.istore 4, 2) := by decide +kernel
theorem dX0_comingDraw_40 : decode cX0_comingDraw 40 = .ok (.iload 6, 2) := by decide +kernel
theorem dX0_comingDraw_42 : decode cX0_comingDraw 42 = .ok (.istore 5, 2) := by decide +kernel
theorem dX0_comingDraw_44 : decode cX0_comingDraw 44 = .ok (.iinc 6 1, 3) := by decide +kernel
theorem dX0_comingDraw_47 : decode cX0_comingDraw 47 = .ok (.goto (-35), 3) := by decide +kernel
theorem dX0_comingDraw_50 : decode cX0_comingDraw 50 = .ok (.iload 5, 2) := by decide +kernel
theorem dX0_comingDraw_52 : decode cX0_comingDraw 52 = .ok (.ireturn, 1) := by decide +kernel
theorem dX0_lastBehind_0 : decode cX0_lastBehind 0 = .ok (.aload_n 0, 1) := by decide +kernel
theorem dX0_lastBehind_1 : decode cX0_lastBehind 1 = .ok (.getfield 15, 3) := by decide +kernel
theorem dX0_lastBehind_4 : decode cX0_lastBehind 4 = .ok (.ifCond .eq 7, 3) := by decide +kernel
theorem dX0_lastBehind_7 : decode cX0_lastBehind 7 = .ok (.iload_n 1, 1) := by decide +kernel
theorem dX0_lastBehind_8 : decode cX0_lastBehind 8 = .ok (.goto 4, 3) := by decide +kernel
theorem dX0_lastBehind_11 : decode cX0_lastBehind 11 = .ok (.iconst 0, 1) := by decide +kernel
theorem dX0_lastBehind_12 : decode cX0_lastBehind 12 = .ok (.ireturn, 1) := by decide +kernel
theorem dX0_lastsAt_0 : decode cX0_lastsAt 0 = .ok (.aload_n 0, 1) := by decide +kernel
theorem dX0_lastsAt_1 : decode cX0_lastsAt 1 = .ok (.getfield 15, 3) := by decide +kernel
theorem dX0_lastsAt_4 : decode cX0_lastsAt 4 = .ok (.ifCond .eq 11, 3) := by decide +kernel
theorem dX0_lastsAt_7 : decode cX0_lastsAt 7 = .ok (.iload_n 1, 1) := by decide +kernel
theorem dX0_lastsAt_8 : decode cX0_lastsAt 8 = .ok (.ifCond .le 7, 3) := by decide +kernel
theorem dX0_lastsAt_11 : decode cX0_lastsAt 11 = .ok (.iconst 2, 1) := by decide +kernel
theorem dX0_lastsAt_12 : decode cX0_lastsAt 12 = .ok (.goto 4, 3) := by decide +kernel
theorem dX0_lastsAt_15 : decode cX0_lastsAt 15 = .ok (.iconst 0, 1) := by decide +kernel
theorem dX0_lastsAt_16 : decode cX0_lastsAt 16 = .ok (.ireturn, 1) := by decide +kernel
theorem dX0_placeOf_0 : decode cX0_placeOf 0 = .ok (.iload_n 0, 1) := by decide +kernel
theorem dX0_placeOf_1 : decode cX0_placeOf 1 = .ok (.bipush 20, 2) := by decide +kernel
theorem dX0_placeOf_3 : decode cX0_placeOf 3 = .ok (.iadd, 1) := by decide +kernel
theorem dX0_placeOf_4 : decode cX0_placeOf 4 = .ok (.iconst 5, 1) := by decide +kernel
theorem dX0_placeOf_5 : decode cX0_placeOf 5 = .ok (.imul, 1) := by decide +kernel
theorem dX0_placeOf_6 : decode cX0_placeOf 6 = .ok (.iload_n 1, 1) := by decide +kernel
theorem dX0_placeOf_7 : decode cX0_placeOf 7 = .ok (.iadd, 1) := by decide +kernel
theorem dX0_placeOf_8 : decode cX0_placeOf 8 = .ok (.iconst 2, 1) := by decide +kernel
theorem dX0_placeOf_9 : decode cX0_placeOf 9 = .ok (.iadd, 1) := by decide +kernel
theorem dX0_placeOf_10 : decode cX0_placeOf 10 = .ok (.ireturn, 1) := by decide +kernel
theorem dX0_storeOf_0 : decode cX0_storeOf 0 = .ok (.iload_n 0, 1) := by decide +kernel
theorem dX0_storeOf_1 : decode cX0_storeOf 1 = .ok (.iconst 5, 1) := by decide +kernel
theorem dX0_storeOf_2 : decode cX0_storeOf 2 = .ok (.idiv, 1) := by decide +kernel
theorem dX0_storeOf_3 : decode cX0_storeOf 3 = .ok (.bipush 20, 2) := by decide +kernel
theorem dX0_storeOf_5 : decode cX0_storeOf 5 = .ok (.isub, 1) := by decide +kernel
theorem dX0_storeOf_6 : decode cX0_storeOf 6 = .ok (.ireturn, 1) := by decide +kernel
theorem dX0_lastOf_0 : decode cX0_lastOf 0 = .ok (.iload_n 0, 1) := by decide +kernel
theorem dX0_lastOf_1 : decode cX0_lastOf 1 = .ok (.iconst 5, 1) := by decide +kernel
theorem dX0_lastOf_2 : decode cX0_lastOf 2 = .ok (.irem, 1) := by decide +kernel
theorem dX0_lastOf_3 : decode cX0_lastOf 3 = .ok (.iconst 2, 1) := by decide +kernel
theorem dX0_lastOf_4 : decode cX0_lastOf 4 = .ok (.isub, 1) := by decide +kernel
theorem dX0_lastOf_5 : decode cX0_lastOf 5 = .ok (.ireturn, 1) := by decide +kernel
theorem dX1_init_0 : decode cX1_init 0 = .ok (.aload_n 0, 1) := by decide +kernel
theorem dX1_init_1 : decode cX1_init 1 = .ok (.invokespecial 3, 3) := by decide +kernel
theorem dX1_init_4 : decode cX1_init 4 = .ok (.aload_n 0, 1) := by decide +kernel
theorem dX1_init_5 : decode cX1_init 5 = .ok (.iconst 0, 1) := by decide +kernel
theorem dX1_init_6 : decode cX1_init 6 = .ok (.putfield 9, 3) := by decide +kernel
theorem dX1_init_9 : decode cX1_init 9 = .ok (.aload_n 0, 1) := by decide +kernel
theorem dX1_init_10 : decode cX1_init 10 = .ok (.iconst 0, 1) := by decide +kernel
theorem dX1_init_11 : decode cX1_init 11 = .ok (.putfield 15, 3) := by decide +kernel
theorem dX1_init_14 : decode cX1_init 14 = .ok (.aload_n 0, 1) := by decide +kernel
theorem dX1_init_15 : decode cX1_init 15 = .ok (.iconst (-1), 1) := by decide +kernel
theorem dX1_init_16 : decode cX1_init 16 = .ok (.putfield 18, 3) := by decide +kernel
theorem dX1_init_19 : decode cX1_init 19 = .ok (.aload_n 0, 1) := by decide +kernel
theorem dX1_init_20 : decode cX1_init 20 = .ok (.bipush 12, 2) := by decide +kernel
theorem dX1_init_22 : decode cX1_init 22 = .ok (.newarray .int, 2) := by decide +kernel
theorem dX1_init_24 : decode cX1_init 24 = .ok (.putfield 21, 3) := by decide +kernel
theorem dX1_init_27 : decode cX1_init 27 = .ok (.aload_n 0, 1) := by decide +kernel
theorem dX1_init_28 : decode cX1_init 28 = .ok (.sipush 205, 3) := by decide +kernel
theorem dX1_init_31 : decode cX1_init 31 = .ok (.newarray .long, 2) := by decide +kernel
theorem dX1_init_33 : decode cX1_init 33 = .ok (.putfield 25, 3) := by decide +kernel
theorem dX1_init_36 : decode cX1_init 36 = .ok (.aload_n 0, 1) := by decide +kernel
theorem dX1_init_37 : decode cX1_init 37 = .ok (.sipush 205, 3) := by decide +kernel
theorem dX1_init_40 : decode cX1_init 40 = .ok (.newarray .long, 2) := by decide +kernel
theorem dX1_init_42 : decode cX1_init 42 = .ok (.putfield 29, 3) := by decide +kernel
theorem dX1_init_45 : decode cX1_init 45 = .ok (.aload_n 0, 1) := by decide +kernel
theorem dX1_init_46 : decode cX1_init 46 = .ok (.aload_n 1, 1) := by decide +kernel
theorem dX1_init_47 : decode cX1_init 47 = .ok (.putfield 32, 3) := by decide +kernel
theorem dX1_init_50 : decode cX1_init 50 = .ok (.return_, 1) := by decide +kernel
theorem dX1_run_0 : decode cX1_run 0 = .ok (.aload_n 0, 1) := by decide +kernel
theorem dX1_run_1 : decode cX1_run 1 = .ok (.getfield 21, 3) := by decide +kernel
theorem dX1_run_4 : decode cX1_run 4 = .ok (.bipush 9, 2) := by decide +kernel
theorem dX1_run_6 : decode cX1_run 6 = .ok (.invokestatic 36, 3) := by decide +kernel
theorem dX1_run_9 : decode cX1_run 9 = .ok (.aload_n 0, 1) := by decide +kernel
theorem dX1_run_10 : decode cX1_run 10 = .ok (.iconst 0, 1) := by decide +kernel
theorem dX1_run_11 : decode cX1_run 11 = .ok (.putfield 9, 3) := by decide +kernel
theorem dX1_run_14 : decode cX1_run 14 = .ok (.aload_n 0, 1) := by decide +kernel
theorem dX1_run_15 : decode cX1_run 15 = .ok (.iload_n 1, 1) := by decide +kernel
theorem dX1_run_16 : decode cX1_run 16 = .ok (.putfield 15, 3) := by decide +kernel
theorem dX1_run_19 : decode cX1_run 19 = .ok (.aload_n 0, 1) := by decide +kernel
theorem dX1_run_20 : decode cX1_run 20 = .ok (.iconst (-1), 1) := by decide +kernel
theorem dX1_run_21 : decode cX1_run 21 = .ok (.putfield 18, 3) := by decide +kernel
theorem dX1_run_24 : decode cX1_run 24 = .ok (.iconst 0, 1) := by decide +kernel
theorem dX1_run_25 : decode cX1_run 25 = .ok (.istore_n 2, 1) := by decide +kernel
theorem dX1_run_26 : decode cX1_run 26 = .ok (.iconst 0, 1) := by decide +kernel
theorem dX1_run_27 : decode cX1_run 27 = .ok (.istore_n 3, 1) := by decide +kernel
theorem dX1_run_28 : decode cX1_run 28 = .ok (.iload_n 3, 1) := by decide +kernel
theorem dX1_run_29 : decode cX1_run 29 = .ok (.aload_n 0, 1) := by decide +kernel
theorem dX1_run_30 : decode cX1_run 30 = .ok (.getfield 32, 3) := by decide +kernel
theorem dX1_run_33 : decode cX1_run 33 = .ok (.getfield 42, 3) := by decide +kernel
theorem dX1_run_36 : decode cX1_run 36 = .ok (.if_icmp .ge 89, 3) := by decide +kernel
theorem dX1_run_39 : decode cX1_run 39 = .ok (.iload_n 3, 1) := by decide +kernel
theorem dX1_run_40 : decode cX1_run 40 = .ok (.bipush 12, 2) := by decide +kernel
theorem dX1_run_42 : decode cX1_run 42 = .ok (.if_icmp .ge 83, 3) := by decide +kernel
theorem dX1_run_45 : decode cX1_run 45 = .ok (.aload_n 0, 1) := by decide +kernel
theorem dX1_run_46 : decode cX1_run 46 = .ok (.getfield 32, 3) := by decide +kernel
theorem dX1_run_49 : decode cX1_run 49 = .ok (.iload_n 3, 1) := by decide +kernel
theorem dX1_run_50 : decode cX1_run 50 = .ok (.aload_n 0, 1) := by decide +kernel
theorem dX1_run_51 : decode cX1_run 51 = .ok (.getfield 15, 3) := by decide +kernel
theorem dX1_run_54 : decode cX1_run 54 = .ok (.iload_n 2, 1) := by decide +kernel
theorem dX1_run_55 : decode cX1_run 55 = .ok (.invokevirtual 47, 3) := by decide +kernel
theorem dX1_run_58 : decode cX1_run 58 = .ok (.istore 4, 2) := by decide +kernel
theorem dX1_run_60 : decode cX1_run 60 = .ok (.iload 4, 2) := by decide +kernel
theorem dX1_run_62 : decode cX1_run 62 = .ok (.bipush 9, 2) := by decide +kernel
theorem dX1_run_64 : decode cX1_run 64 = .ok (.if_icmp .ne 9, 3) := by decide +kernel
theorem dX1_run_67 : decode cX1_run 67 = .ok (.aload_n 0, 1) := by decide +kernel
theorem dX1_run_68 : decode cX1_run 68 = .ok (.iload_n 3, 1) := by decide +kernel
theorem dX1_run_69 : decode cX1_run 69 = .ok (.putfield 18, 3) := by decide +kernel
theorem dX1_run_72 : decode cX1_run 72 = .ok (.return_, 1) := by decide +kernel
theorem dX1_run_73 : decode cX1_run 73 = .ok (.aload_n 0, 1) := by decide +kernel
theorem dX1_run_74 : decode cX1_run 74 = .ok (.dup, 1) := by decide +kernel
theorem dX1_run_75 : decode cX1_run 75 = .ok (.getfield 9, 3) := by decide +kernel
theorem dX1_run_78 : decode cX1_run 78 = .ok (.aload_n 0, 1) := by decide +kernel
theorem dX1_run_79 : decode cX1_run 79 = .ok (.getfield 32, 3) := by decide +kernel
theorem dX1_run_82 : decode cX1_run 82 = .ok (.iload_n 3, 1) := by decide +kernel
theorem dX1_run_83 : decode cX1_run 83 = .ok (.aload_n 0, 1) := by decide +kernel
theorem dX1_run_84 : decode cX1_run 84 = .ok (.getfield 15, 3) := by decide +kernel
theorem dX1_run_87 : decode cX1_run 87 = .ok (.iload_n 2, 1) := by decide +kernel
theorem dX1_run_88 : decode cX1_run 88 = .ok (.iload 4, 2) := by decide +kernel
theorem dX1_run_90 : decode cX1_run 90 = .ok (.invokevirtual 51, 3) := by decide +kernel
theorem dX1_run_93 : decode cX1_run 93 = .ok (.iadd, 1) := by decide +kernel
theorem dX1_run_94 : decode cX1_run 94 = .ok (.putfield 9, 3) := by decide +kernel
theorem dX1_run_97 : decode cX1_run 97 = .ok (.aload_n 0, 1) := by decide +kernel
theorem dX1_run_98 : decode cX1_run 98 = .ok (.getfield 21, 3) := by decide +kernel
theorem dX1_run_101 : decode cX1_run 101 = .ok (.iload_n 3, 1) := by decide +kernel
theorem dX1_run_102 : decode cX1_run 102 = .ok (.iload 4, 2) := by decide +kernel
theorem dX1_run_104 : decode cX1_run 104 = .ok (.iastore, 1) := by decide +kernel
theorem dX1_run_105 : decode cX1_run 105 = .ok (.aload_n 0, 1) := by decide +kernel
theorem dX1_run_106 : decode cX1_run 106 = .ok (.dup, 1) := by decide +kernel
theorem dX1_run_107 : decode cX1_run 107 = .ok (.getfield 15, 3) := by decide +kernel
theorem dX1_run_110 : decode cX1_run 110 = .ok (.iload 4, 2) := by decide +kernel
theorem dX1_run_112 : decode cX1_run 112 = .ok (.isub, 1) := by decide +kernel
theorem dX1_run_113 : decode cX1_run 113 = .ok (.putfield 15, 3) := by decide +kernel
theorem dX1_run_116 : decode cX1_run 116 = .ok (.iload 4, 2) := by decide +kernel
theorem dX1_run_118 : decode cX1_run 118 = .ok (.istore_n 2, 1) := by decide +kernel
theorem dX1_run_119 : decode cX1_run 119 = .ok (.iinc 3 1, 3) := by decide +kernel
theorem dX1_run_122 : decode cX1_run 122 = .ok (.goto (-94), 3) := by decide +kernel
theorem dX1_run_125 : decode cX1_run 125 = .ok (.return_, 1) := by decide +kernel
theorem dX1_drawOf_0 : decode cX1_drawOf 0 = .ok (.iload_n 1, 1) := by decide +kernel
theorem dX1_drawOf_1 : decode cX1_drawOf 1 = .ok (.ifCond .lt 18, 3) := by decide +kernel
theorem dX1_drawOf_4 : decode cX1_drawOf 4 = .ok (.iload_n 1, 1) := by decide +kernel
theorem dX1_drawOf_5 : decode cX1_drawOf 5 = .ok (.bipush 12, 2) := by decide +kernel
theorem dX1_drawOf_7 : decode cX1_drawOf 7 = .ok (.if_icmp .ge 12, 3) := by decide +kernel
theorem dX1_drawOf_10 : decode cX1_drawOf 10 = .ok (.aload_n 0, 1) := by decide +kernel
theorem dX1_drawOf_11 : decode cX1_drawOf 11 = .ok (.getfield 21, 3) := by decide +kernel
theorem dX1_drawOf_14 : decode cX1_drawOf 14 = .ok (.iload_n 1, 1) := by decide +kernel
theorem dX1_drawOf_15 : decode cX1_drawOf 15 = .ok (.iaload, 1) := by decide +kernel
theorem dX1_drawOf_16 : decode cX1_drawOf 16 = .ok (.goto 5, 3) := by decide +kernel
theorem dX1_drawOf_19 : decode cX1_drawOf 19 = .ok (.bipush 9, 2) := by decide +kernel
theorem dX1_drawOf_21 : decode cX1_drawOf 21 = .ok (.ireturn, 1) := by decide +kernel
theorem dX1_isWithin_0 : decode cX1_isWithin 0 = .ok (.aload_n 0, 1) := by decide +kernel
theorem dX1_isWithin_1 : decode cX1_isWithin 1 = .ok (.getfield 18, 3) := by decide +kernel
theorem dX1_isWithin_4 : decode cX1_isWithin 4 = .ok (.iconst (-1), 1) := by decide +kernel
theorem dX1_isWithin_5 : decode cX1_isWithin 5 = .ok (.if_icmp .ne 7, 3) := by decide +kernel
theorem dX1_isWithin_8 : decode cX1_isWithin 8 = .ok (.iconst 1, 1) := by decide +kernel
theorem dX1_isWithin_9 : decode cX1_isWithin 9 = .ok (.goto 4, 3) := by decide +kernel
theorem dX1_isWithin_12 : decode cX1_isWithin 12 = .ok (.iconst 0, 1) := by decide +kernel
theorem dX1_isWithin_13 : decode cX1_isWithin 13 = .ok (.istore_n 2, 1) := by decide +kernel
theorem dX1_isWithin_14 : decode cX1_isWithin 14 = .ok (.iconst 0, 1) := by decide +kernel
theorem dX1_isWithin_15 : decode cX1_isWithin 15 = .ok (.istore_n 3, 1) := by decide +kernel
theorem dX1_isWithin_16 : decode cX1_isWithin 16 = .ok (.iload_n 3, 1) := by decide +kernel
theorem dX1_isWithin_17 : decode cX1_isWithin 17 = .ok (.aload_n 0, 1) := by decide +kernel
theorem dX1_isWithin_18 : decode cX1_isWithin 18 = .ok (.getfield 32, 3) := by decide +kernel
theorem dX1_isWithin_21 : decode cX1_isWithin 21 = .ok (.getfield 42, 3) := by decide +kernel
theorem dX1_isWithin_24 : decode cX1_isWithin 24 = .ok (.if_icmp .ge 40, 3) := by decide +kernel
theorem dX1_isWithin_27 : decode cX1_isWithin 27 = .ok (.iload_n 3, 1) := by decide +kernel
theorem dX1_isWithin_28 : decode cX1_isWithin 28 = .ok (.aload_n 1, 1) := by decide +kernel
theorem dX1_isWithin_29 : decode cX1_isWithin 29 = .ok (.arraylength, 1) := by decide +kernel
theorem dX1_isWithin_30 : decode cX1_isWithin 30 = .ok (.if_icmp .ge 34, 3) := by decide +kernel
theorem dX1_isWithin_33 : decode cX1_isWithin 33 = .ok (.iload_n 2, 1) := by decide +kernel
theorem dX1_isWithin_34 : decode cX1_isWithin 34 = .ok (.ifCond .eq 30, 3) := by decide +kernel
theorem dX1_isWithin_37 : decode cX1_isWithin 37 = .ok (.aload_n 1, 1) := by decide +kernel
theorem dX1_isWithin_38 : decode cX1_isWithin 38 = .ok (.iload_n 3, 1) := by decide +kernel
theorem dX1_isWithin_39 : decode cX1_isWithin 39 = .ok (.iaload, 1) := by decide +kernel
theorem dX1_isWithin_40 : decode cX1_isWithin 40 = .ok (.aload_n 0, 1) := by decide +kernel
theorem dX1_isWithin_41 : decode cX1_isWithin 41 = .ok (.iload_n 3, 1) := by decide +kernel
theorem dX1_isWithin_42 : decode cX1_isWithin 42 = .ok (.invokevirtual 55, 3) := by decide +kernel
theorem dX1_isWithin_45 : decode cX1_isWithin 45 = .ok (.invokestatic 59, 3) := by decide +kernel
theorem dX1_isWithin_48 : decode cX1_isWithin 48 = .ok (.iand, 1) := by decide +kernel
theorem dX1_isWithin_49 : decode cX1_isWithin 49 = .ok (.ifCond .eq 7, 3) := by decide +kernel
theorem dX1_isWithin_52 : decode cX1_isWithin 52 = .ok (.iconst 1, 1) := by decide +kernel
theorem dX1_isWithin_53 : decode cX1_isWithin 53 = .ok (.goto 4, 3) := by decide +kernel
theorem dX1_isWithin_56 : decode cX1_isWithin 56 = .ok (.iconst 0, 1) := by decide +kernel
theorem dX1_isWithin_57 : decode cX1_isWithin 57 = .ok (.istore_n 2, 1) := by decide +kernel
theorem dX1_isWithin_58 : decode cX1_isWithin 58 = .ok (.iinc 3 1, 3) := by decide +kernel
theorem dX1_isWithin_61 : decode cX1_isWithin 61 = .ok (.goto (-45), 3) := by decide +kernel
theorem dX1_isWithin_64 : decode cX1_isWithin 64 = .ok (.iload_n 2, 1) := by decide +kernel
theorem dX1_isWithin_65 : decode cX1_isWithin 65 = .ok (.ireturn, 1) := by decide +kernel
theorem dX1_allChances_0 : decode cX1_allChances 0 = .ok (.lconst 1, 1) := by decide +kernel
theorem dX1_allChances_1 : decode cX1_allChances 1 = .ok (.lstore_n 1, 1) := by decide +kernel
theorem dX1_allChances_2 : decode cX1_allChances 2 = .ok (.iconst 0, 1) := by decide +kernel
theorem dX1_allChances_3 : decode cX1_allChances 3 = .ok (.istore_n 3, 1) := by decide +kernel
theorem dX1_allChances_4 : decode cX1_allChances 4 = .ok (.iload_n 3, 1) := by decide +kernel
theorem dX1_allChances_5 : decode cX1_allChances 5 = .ok (.aload_n 0, 1) := by decide +kernel
theorem dX1_allChances_6 : decode cX1_allChances 6 = .ok (.getfield 32, 3) := by decide +kernel
theorem dX1_allChances_9 : decode cX1_allChances 9 = .ok (.getfield 42, 3) := by decide +kernel
theorem dX1_allChances_12 : decode cX1_allChances 12 = .ok (.if_icmp .ge 21, 3) := by decide +kernel
theorem dX1_allChances_15 : decode cX1_allChances 15 = .ok (.iload_n 3, 1) := by decide +kernel
theorem dX1_allChances_16 : decode cX1_allChances 16 = .ok (.bipush 12, 2) := by decide +kernel
theorem dX1_allChances_18 : decode cX1_allChances 18 = .ok (.if_icmp .ge 15, 3) := by decide +kernel
theorem dX1_allChances_21 : decode cX1_allChances 21 = .ok (.lload_n 1, 1) := by decide +kernel
theorem dX1_allChances_22 : decode cX1_allChances 22 = .ok (.ldc2_w 62, 3) := by decide +kernel
theorem dX1_allChances_25 : decode cX1_allChances 25 = .ok (.lmul, 1) := by decide +kernel
theorem dX1_allChances_26 : decode cX1_allChances 26 = .ok (.lstore_n 1, 1) := by decide +kernel
theorem dX1_allChances_27 : decode cX1_allChances 27 = .ok (.iinc 3 1, 3) := by decide +kernel
theorem dX1_allChances_30 : decode cX1_allChances 30 = .ok (.goto (-26), 3) := by decide +kernel
theorem dX1_allChances_33 : decode cX1_allChances 33 = .ok (.lload_n 1, 1) := by decide +kernel
theorem dX1_allChances_34 : decode cX1_allChances 34 = .ok (.lreturn, 1) := by decide +kernel
theorem dX1_chances_0 : decode cX1_chances 0 = .ok (.aload_n 0, 1) := by decide +kernel
theorem dX1_chances_1 : decode cX1_chances 1 = .ok (.getfield 25, 3) := by decide +kernel
theorem dX1_chances_4 : decode cX1_chances 4 = .ok (.lconst 0, 1) := by decide +kernel
theorem dX1_chances_5 : decode cX1_chances 5 = .ok (.invokestatic 64, 3) := by decide +kernel
theorem dX1_chances_8 : decode cX1_chances 8 = .ok (.aload_n 0, 1) := by decide +kernel
theorem dX1_chances_9 : decode cX1_chances 9 = .ok (.getfield 25, 3) := by decide +kernel
theorem dX1_chances_12 : decode cX1_chances 12 = .ok (.iload_n 1, 1) := by decide +kernel
theorem dX1_chances_13 : decode cX1_chances 13 = .ok (.iconst 0, 1) := by decide +kernel
theorem dX1_chances_14 : decode cX1_chances 14 = .ok (.invokestatic 67, 3) := by decide +kernel
theorem dX1_chances_17 : decode cX1_chances 17 = .ok (.lconst 1, 1) := by decide +kernel
theorem dX1_chances_18 : decode cX1_chances 18 = .ok (.lastore, 1) := by decide +kernel
theorem dX1_chances_19 : decode cX1_chances 19 = .ok (.iconst 0, 1) := by decide +kernel
theorem dX1_chances_20 : decode cX1_chances 20 = .ok (.istore_n 3, 1) := by decide +kernel
theorem dX1_chances_21 : decode cX1_chances 21 = .ok (.iload_n 3, 1) := by decide +kernel
theorem dX1_chances_22 : decode cX1_chances 22 = .ok (.aload_n 0, 1) := by decide +kernel
theorem dX1_chances_23 : decode cX1_chances 23 = .ok (.getfield 32, 3) := by decide +kernel
theorem dX1_chances_26 : decode cX1_chances 26 = .ok (.getfield 42, 3) := by decide +kernel
theorem dX1_chances_29 : decode cX1_chances 29 = .ok (.if_icmp .ge 14, 3) := by decide +kernel
theorem dX1_chances_32 : decode cX1_chances 32 = .ok (.aload_n 0, 1) := by decide +kernel
theorem dX1_chances_33 : decode cX1_chances 33 = .ok (.iload_n 3, 1) := by decide +kernel
theorem dX1_chances_34 : decode cX1_chances 34 = .ok (.invokevirtual 71, 3) := by decide +kernel
theorem dX1_chances_37 : decode cX1_chances 37 = .ok (.iinc 3 1, 3) := by decide +kernel
theorem dX1_chances_40 : decode cX1_chances 40 = .ok (.goto (-19), 3) := by decide +kernel
theorem dX1_chances_43 : decode cX1_chances 43 = .ok (.lconst 0, 1) := by decide +kernel
theorem dX1_chances_44 : decode cX1_chances 44 = .ok (.lstore_n 3, 1) := by decide +kernel
theorem dX1_chances_45 : decode cX1_chances 45 = .ok (.iload_n 2, 1) := by decide +kernel
theorem dX1_chances_46 : decode cX1_chances 46 = .ok (.bipush (-2), 2) := by decide +kernel
theorem dX1_chances_48 : decode cX1_chances 48 = .ok (.invokestatic 67, 3) := by decide +kernel
theorem dX1_chances_51 : decode cX1_chances 51 = .ok (.istore 5, 2) := by decide +kernel
theorem dX1_chances_53 : decode cX1_chances 53 = .ok (.iload 5, 2) := by decide +kernel
theorem dX1_chances_55 : decode cX1_chances 55 = .ok (.sipush 205, 3) := by decide +kernel
theorem dX1_chances_58 : decode cX1_chances 58 = .ok (.if_icmp .ge 19, 3) := by decide +kernel
theorem dX1_chances_61 : decode cX1_chances 61 = .ok (.lload_n 3, 1) := by decide +kernel
theorem dX1_chances_62 : decode cX1_chances 62 = .ok (.aload_n 0, 1) := by decide +kernel
theorem dX1_chances_63 : decode cX1_chances 63 = .ok (.getfield 25, 3) := by decide +kernel
theorem dX1_chances_66 : decode cX1_chances 66 = .ok (.iload 5, 2) := by decide +kernel
theorem dX1_chances_68 : decode cX1_chances 68 = .ok (.laload, 1) := by decide +kernel
theorem dX1_chances_69 : decode cX1_chances 69 = .ok (.ladd, 1) := by decide +kernel
theorem dX1_chances_70 : decode cX1_chances 70 = .ok (.lstore_n 3, 1) := by decide +kernel
theorem dX1_chances_71 : decode cX1_chances 71 = .ok (.iinc 5 1, 3) := by decide +kernel
theorem dX1_chances_74 : decode cX1_chances 74 = .ok (.goto (-21), 3) := by decide +kernel
theorem dX1_chances_77 : decode cX1_chances 77 = .ok (.lload_n 3, 1) := by decide +kernel
theorem dX1_chances_78 : decode cX1_chances 78 = .ok (.lreturn, 1) := by decide +kernel
theorem dX1_slipAt_0 : decode cX1_slipAt 0 = .ok (.aload_n 0, 1) := by decide +kernel
theorem dX1_slipAt_1 : decode cX1_slipAt 1 = .ok (.getfield 29, 3) := by decide +kernel
theorem dX1_slipAt_4 : decode cX1_slipAt 4 = .ok (.lconst 0, 1) := by decide +kernel
theorem dX1_slipAt_5 : decode cX1_slipAt 5 = .ok (.invokestatic 64, 3) := by decide +kernel
theorem dX1_slipAt_8 : decode cX1_slipAt 8 = .ok (.aload_n 0, 1) := by decide +kernel
theorem dX1_slipAt_9 : decode cX1_slipAt 9 = .ok (.getfield 32, 3) := by decide +kernel
theorem dX1_slipAt_12 : decode cX1_slipAt 12 = .ok (.getfield 75, 3) := by decide +kernel
theorem dX1_slipAt_15 : decode cX1_slipAt 15 = .ok (.getfield 79, 3) := by decide +kernel
theorem dX1_slipAt_18 : decode cX1_slipAt 18 = .ok (.istore_n 2, 1) := by decide +kernel
theorem dX1_slipAt_19 : decode cX1_slipAt 19 = .ok (.iconst 0, 1) := by decide +kernel
theorem dX1_slipAt_20 : decode cX1_slipAt 20 = .ok (.istore_n 3, 1) := by decide +kernel
theorem dX1_slipAt_21 : decode cX1_slipAt 21 = .ok (.iload_n 3, 1) := by decide +kernel
theorem dX1_slipAt_22 : decode cX1_slipAt 22 = .ok (.sipush 205, 3) := by decide +kernel
theorem dX1_slipAt_25 : decode cX1_slipAt 25 = .ok (.if_icmp .ge 179, 3) := by decide +kernel
theorem dX1_slipAt_28 : decode cX1_slipAt 28 = .ok (.iload_n 3, 1) := by decide +kernel
theorem dX1_slipAt_29 : decode cX1_slipAt 29 = .ok (.invokestatic 84, 3) := by decide +kernel
theorem dX1_slipAt_32 : decode cX1_slipAt 32 = .ok (.istore 4, 2) := by decide +kernel
theorem dX1_slipAt_34 : decode cX1_slipAt 34 = .ok (.iload_n 3, 1) := by decide +kernel
theorem dX1_slipAt_35 : decode cX1_slipAt 35 = .ok (.invokestatic 87, 3) := by decide +kernel
theorem dX1_slipAt_38 : decode cX1_slipAt 38 = .ok (.istore 5, 2) := by decide +kernel
theorem dX1_slipAt_40 : decode cX1_slipAt 40 = .ok (.aload_n 0, 1) := by decide +kernel
theorem dX1_slipAt_41 : decode cX1_slipAt 41 = .ok (.getfield 25, 3) := by decide +kernel
theorem dX1_slipAt_44 : decode cX1_slipAt 44 = .ok (.iload_n 3, 1) := by decide +kernel
theorem dX1_slipAt_45 : decode cX1_slipAt 45 = .ok (.laload, 1) := by decide +kernel
theorem dX1_slipAt_46 : decode cX1_slipAt 46 = .ok (.lconst 0, 1) := by decide +kernel
theorem dX1_slipAt_47 : decode cX1_slipAt 47 = .ok (.lcmp, 1) := by decide +kernel
theorem dX1_slipAt_48 : decode cX1_slipAt 48 = .ok (.ifCond .ne 8, 3) := by decide +kernel
theorem dX1_slipAt_51 : decode cX1_slipAt 51 = .ok (.bipush 9, 2) := by decide +kernel
theorem dX1_slipAt_53 : decode cX1_slipAt 53 = .ok (.goto 15, 3) := by decide +kernel
theorem dX1_slipAt_56 : decode cX1_slipAt 56 = .ok (.aload_n 0, 1) := by decide +kernel
theorem dX1_slipAt_57 : decode cX1_slipAt 57 = .ok (.getfield 32, 3) := by decide +kernel
theorem dX1_slipAt_60 : decode cX1_slipAt 60 = .ok (.iload_n 1, 1) := by decide +kernel
theorem dX1_slipAt_61 : decode cX1_slipAt 61 = .ok (.iload 4, 2) := by decide +kernel
theorem dX1_slipAt_63 : decode cX1_slipAt 63 = .ok (.iload 5, 2) := by decide +kernel
theorem dX1_slipAt_65 : decode cX1_slipAt 65 = .ok (.invokevirtual 47, 3) := by decide +kernel
theorem dX1_slipAt_68 : decode cX1_slipAt 68 = .ok (.istore 6, 2) := by decide +kernel
theorem dX1_slipAt_70 : decode cX1_slipAt 70 = .ok (.iload 6, 2) := by decide +kernel
theorem dX1_slipAt_72 : decode cX1_slipAt 72 = .ok (.bipush 9, 2) := by decide +kernel
theorem dX1_slipAt_74 : decode cX1_slipAt 74 = .ok (.if_icmp .eq 124, 3) := by decide +kernel
theorem dX1_slipAt_77 : decode cX1_slipAt 77 = .ok (.iload 6, 2) := by decide +kernel
theorem dX1_slipAt_79 : decode cX1_slipAt 79 = .ok (.iconst 2, 1) := by decide +kernel
theorem dX1_slipAt_80 : decode cX1_slipAt 80 = .ok (.if_icmp .ge 28, 3) := by decide +kernel
theorem dX1_slipAt_83 : decode cX1_slipAt 83 = .ok (.aload_n 0, 1) := by decide +kernel
theorem dX1_slipAt_84 : decode cX1_slipAt 84 = .ok (.getfield 32, 3) := by decide +kernel
theorem dX1_slipAt_87 : decode cX1_slipAt 87 = .ok (.iload_n 1, 1) := by decide +kernel
theorem dX1_slipAt_88 : decode cX1_slipAt 88 = .ok (.iload 4, 2) := by decide +kernel
theorem dX1_slipAt_90 : decode cX1_slipAt 90 = .ok (.iload 5, 2) := by decide +kernel
theorem dX1_slipAt_92 : decode cX1_slipAt 92 = .ok (.iload 6, 2) := by decide +kernel
theorem dX1_slipAt_94 : decode cX1_slipAt 94 = .ok (.iconst 1, 1) := by decide +kernel
theorem dX1_slipAt_95 : decode cX1_slipAt 95 = .ok (.iadd, 1) := by decide +kernel
theorem dX1_slipAt_96 : decode cX1_slipAt 96 = .ok (.invokevirtual 51, 3) := by decide +kernel
theorem dX1_slipAt_99 : decode cX1_slipAt 99 = .ok (.ldc 90, 2) := by decide +kernel
theorem dX1_slipAt_101 : decode cX1_slipAt 101 = .ok (.if_icmp .eq 7, 3) := by decide +kernel
theorem dX1_slipAt_104 : decode cX1_slipAt 104 = .ok (.iconst 1, 1) := by decide +kernel
theorem dX1_slipAt_105 : decode cX1_slipAt 105 = .ok (.goto 4, 3) := by decide +kernel
theorem dX1_slipAt_108 : decode cX1_slipAt 108 = .ok (.iconst 0, 1) := by decide +kernel
theorem dX1_slipAt_109 : decode cX1_slipAt 109 = .ok (.istore 7, 2) := by decide +kernel
theorem dX1_slipAt_111 : decode cX1_slipAt 111 = .ok (.iload 7, 2) := by decide +kernel
theorem dX1_slipAt_113 : decode cX1_slipAt 113 = .ok (.ifCond .eq 10, 3) := by decide +kernel
theorem dX1_slipAt_116 : decode cX1_slipAt 116 = .ok (.iload 6, 2) := by decide +kernel
theorem dX1_slipAt_118 : decode cX1_slipAt 118 = .ok (.iconst 1, 1) := by decide +kernel
theorem dX1_slipAt_119 : decode cX1_slipAt 119 = .ok (.iadd, 1) := by decide +kernel
theorem dX1_slipAt_120 : decode cX1_slipAt 120 = .ok (.goto 5, 3) := by decide +kernel
theorem dX1_slipAt_123 : decode cX1_slipAt 123 = .ok (.iload 6, 2) := by decide +kernel
theorem dX1_slipAt_125 : decode cX1_slipAt 125 = .ok (.istore 8, 2) := by decide +kernel
theorem dX1_slipAt_127 : decode cX1_slipAt 127 = .ok (.aload_n 0, 1) := by decide +kernel
theorem dX1_slipAt_128 : decode cX1_slipAt 128 = .ok (.getfield 29, 3) := by decide +kernel
theorem dX1_slipAt_131 : decode cX1_slipAt 131 = .ok (.iload 4, 2) := by decide +kernel
theorem dX1_slipAt_133 : decode cX1_slipAt 133 = .ok (.iload 6, 2) := by decide +kernel
theorem dX1_slipAt_135 : decode cX1_slipAt 135 = .ok (.isub, 1) := by decide +kernel
theorem dX1_slipAt_136 : decode cX1_slipAt 136 = .ok (.aload_n 0, 1) := by decide +kernel
theorem dX1_slipAt_137 : decode cX1_slipAt 137 = .ok (.getfield 32, 3) := by decide +kernel
theorem dX1_slipAt_140 : decode cX1_slipAt 140 = .ok (.iload 6, 2) := by decide +kernel
theorem dX1_slipAt_142 : decode cX1_slipAt 142 = .ok (.invokevirtual 91, 3) := by decide +kernel
theorem dX1_slipAt_145 : decode cX1_slipAt 145 = .ok (.invokestatic 67, 3) := by decide +kernel
theorem dX1_slipAt_148 : decode cX1_slipAt 148 = .ok (.dup2, 1) := by decide +kernel
theorem dX1_slipAt_149 : decode cX1_slipAt 149 = .ok (.laload, 1) := by decide +kernel
theorem dX1_slipAt_150 : decode cX1_slipAt 150 = .ok (.aload_n 0, 1) := by decide +kernel
theorem dX1_slipAt_151 : decode cX1_slipAt 151 = .ok (.getfield 25, 3) := by decide +kernel
theorem dX1_slipAt_154 : decode cX1_slipAt 154 = .ok (.iload_n 3, 1) := by decide +kernel
theorem dX1_slipAt_155 : decode cX1_slipAt 155 = .ok (.laload, 1) := by decide +kernel
theorem dX1_slipAt_156 : decode cX1_slipAt 156 = .ok (.bipush 10, 2) := by decide +kernel
theorem dX1_slipAt_158 : decode cX1_slipAt 158 = .ok (.iload_n 2, 1) := by decide +kernel
theorem dX1_slipAt_159 : decode cX1_slipAt 159 = .ok (.isub, 1) := by decide +kernel
theorem dX1_slipAt_160 : decode cX1_slipAt 160 = .ok (.i2l, 1) := by decide +kernel
theorem dX1_slipAt_161 : decode cX1_slipAt 161 = .ok (.lmul, 1) := by decide +kernel
theorem dX1_slipAt_162 : decode cX1_slipAt 162 = .ok (.ladd, 1) := by decide +kernel
theorem dX1_slipAt_163 : decode cX1_slipAt 163 = .ok (.lastore, 1) := by decide +kernel
theorem dX1_slipAt_164 : decode cX1_slipAt 164 = .ok (.aload_n 0, 1) := by decide +kernel
theorem dX1_slipAt_165 : decode cX1_slipAt 165 = .ok (.getfield 29, 3) := by decide +kernel
theorem dX1_slipAt_168 : decode cX1_slipAt 168 = .ok (.iload 4, 2) := by decide +kernel
theorem dX1_slipAt_170 : decode cX1_slipAt 170 = .ok (.iload 8, 2) := by decide +kernel
theorem dX1_slipAt_172 : decode cX1_slipAt 172 = .ok (.isub, 1) := by decide +kernel
theorem dX1_slipAt_173 : decode cX1_slipAt 173 = .ok (.aload_n 0, 1) := by decide +kernel
theorem dX1_slipAt_174 : decode cX1_slipAt 174 = .ok (.getfield 32, 3) := by decide +kernel
theorem dX1_slipAt_177 : decode cX1_slipAt 177 = .ok (.iload 8, 2) := by decide +kernel
theorem dX1_slipAt_179 : decode cX1_slipAt 179 = .ok (.invokevirtual 91, 3) := by decide +kernel
theorem dX1_slipAt_182 : decode cX1_slipAt 182 = .ok (.invokestatic 67, 3) := by decide +kernel
theorem dX1_slipAt_185 : decode cX1_slipAt 185 = .ok (.dup2, 1) := by decide +kernel
theorem dX1_slipAt_186 : decode cX1_slipAt 186 = .ok (.laload, 1) := by decide +kernel
theorem dX1_slipAt_187 : decode cX1_slipAt 187 = .ok (.aload_n 0, 1) := by decide +kernel
theorem dX1_slipAt_188 : decode cX1_slipAt 188 = .ok (.getfield 25, 3) := by decide +kernel
theorem dX1_slipAt_191 : decode cX1_slipAt 191 = .ok (.iload_n 3, 1) := by decide +kernel
theorem dX1_slipAt_192 : decode cX1_slipAt 192 = .ok (.laload, 1) := by decide +kernel
theorem dX1_slipAt_193 : decode cX1_slipAt 193 = .ok (.iload_n 2, 1) := by decide +kernel
theorem dX1_slipAt_194 : decode cX1_slipAt 194 = .ok (.i2l, 1) := by decide +kernel
theorem dX1_slipAt_195 : decode cX1_slipAt 195 = .ok (.lmul, 1) := by decide +kernel
theorem dX1_slipAt_196 : decode cX1_slipAt 196 = .ok (.ladd, 1) := by decide +kernel
theorem dX1_slipAt_197 : decode cX1_slipAt 197 = .ok (.lastore, 1) := by decide +kernel
theorem dX1_slipAt_198 : decode cX1_slipAt 198 = .ok (.iinc 3 1, 3) := by decide +kernel
theorem dX1_slipAt_201 : decode cX1_slipAt 201 = .ok (.goto (-180), 3) := by decide +kernel
theorem dX1_slipAt_204 : decode cX1_slipAt 204 = .ok (.aload_n 0, 1) := by decide +kernel
theorem dX1_slipAt_205 : decode cX1_slipAt 205 = .ok (.getfield 25, 3) := by decide +kernel
theorem dX1_slipAt_208 : decode cX1_slipAt 208 = .ok (.astore_n 3, 1) := by decide +kernel
theorem dX1_slipAt_209 : decode cX1_slipAt 209 = .ok (.aload_n 0, 1) := by decide +kernel
theorem dX1_slipAt_210 : decode cX1_slipAt 210 = .ok (.aload_n 0, 1) := by decide +kernel
theorem dX1_slipAt_211 : decode cX1_slipAt 211 = .ok (.getfield 29, 3) := by decide +kernel
theorem dX1_slipAt_214 : decode cX1_slipAt 214 = .ok (.putfield 25, 3) := by decide +kernel
theorem dX1_slipAt_217 : decode cX1_slipAt 217 = .ok (.aload_n 0, 1) := by decide +kernel
theorem dX1_slipAt_218 : decode cX1_slipAt 218 = .ok (.aload_n 3, 1) := by decide +kernel
theorem dX1_slipAt_219 : decode cX1_slipAt 219 = .ok (.putfield 29, 3) := by decide +kernel
theorem dX1_slipAt_222 : decode cX1_slipAt 222 = .ok (.return_, 1) := by decide +kernel
theorem dX2_init_0 : decode cX2_init 0 = .ok (.aload_n 0, 1) := by decide +kernel
theorem dX2_init_1 : decode cX2_init 1 = .ok (.invokespecial 3, 3) := by decide +kernel
theorem dX2_init_4 : decode cX2_init 4 = .ok (.aload_n 0, 1) := by decide +kernel
theorem dX2_init_5 : decode cX2_init 5 = .ok (.iconst 0, 1) := by decide +kernel
theorem dX2_init_6 : decode cX2_init 6 = .ok (.putfield 9, 3) := by decide +kernel
theorem dX2_init_9 : decode cX2_init 9 = .ok (.aload_n 0, 1) := by decide +kernel
theorem dX2_init_10 : decode cX2_init 10 = .ok (.iconst 0, 1) := by decide +kernel
theorem dX2_init_11 : decode cX2_init 11 = .ok (.putfield 15, 3) := by decide +kernel
theorem dX2_init_14 : decode cX2_init 14 = .ok (.aload_n 0, 1) := by decide +kernel
theorem dX2_init_15 : decode cX2_init 15 = .ok (.aload_n 1, 1) := by decide +kernel
theorem dX2_init_16 : decode cX2_init 16 = .ok (.putfield 18, 3) := by decide +kernel
theorem dX2_init_19 : decode cX2_init 19 = .ok (.aload_n 0, 1) := by decide +kernel
theorem dX2_init_20 : decode cX2_init 20 = .ok (.aload_n 2, 1) := by decide +kernel
theorem dX2_init_21 : decode cX2_init 21 = .ok (.putfield 22, 3) := by decide +kernel
theorem dX2_init_24 : decode cX2_init 24 = .ok (.aload_n 0, 1) := by decide +kernel
theorem dX2_init_25 : decode cX2_init 25 = .ok (.aload_n 3, 1) := by decide +kernel
theorem dX2_init_26 : decode cX2_init 26 = .ok (.putfield 26, 3) := by decide +kernel
theorem dX2_init_29 : decode cX2_init 29 = .ok (.return_, 1) := by decide +kernel
theorem dX2_playComing_0 : decode cX2_playComing 0 = .ok (.aload_n 0, 1) := by decide +kernel
theorem dX2_playComing_1 : decode cX2_playComing 1 = .ok (.aload_n 1, 1) := by decide +kernel
theorem dX2_playComing_2 : decode cX2_playComing 2 = .ok (.iload_n 2, 1) := by decide +kernel
theorem dX2_playComing_3 : decode cX2_playComing 3 = .ok (.iload_n 3, 1) := by decide +kernel
theorem dX2_playComing_4 : decode cX2_playComing 4 = .ok (.invokevirtual 30, 3) := by decide +kernel
theorem dX2_playComing_7 : decode cX2_playComing 7 = .ok (.istore 4, 2) := by decide +kernel
theorem dX2_playComing_9 : decode cX2_playComing 9 = .ok (.iload 4, 2) := by decide +kernel
theorem dX2_playComing_11 : decode cX2_playComing 11 = .ok (.ifCond .eq 6, 3) := by decide +kernel
theorem dX2_playComing_14 : decode cX2_playComing 14 = .ok (.iload 4, 2) := by decide +kernel
theorem dX2_playComing_16 : decode cX2_playComing 16 = .ok (.ireturn, 1) := by decide +kernel
theorem dX2_playComing_17 : decode cX2_playComing 17 = .ok (.aload_n 0, 1) := by decide +kernel
theorem dX2_playComing_18 : decode cX2_playComing 18 = .ok (.getfield 18, 3) := by decide +kernel
theorem dX2_playComing_21 : decode cX2_playComing 21 = .ok (.iload_n 2, 1) := by decide +kernel
theorem dX2_playComing_22 : decode cX2_playComing 22 = .ok (.aload_n 1, 1) := by decide +kernel
theorem dX2_playComing_23 : decode cX2_playComing 23 = .ok (.getfield 34, 3) := by decide +kernel
theorem dX2_playComing_26 : decode cX2_playComing 26 = .ok (.iload_n 2, 1) := by decide +kernel
theorem dX2_playComing_27 : decode cX2_playComing 27 = .ok (.iaload, 1) := by decide +kernel
theorem dX2_playComing_28 : decode cX2_playComing 28 = .ok (.iload_n 3, 1) := by decide +kernel
theorem dX2_playComing_29 : decode cX2_playComing 29 = .ok (.invokevirtual 40, 3) := by decide +kernel
theorem dX2_playComing_32 : decode cX2_playComing 32 = .ok (.aload_n 0, 1) := by decide +kernel
theorem dX2_playComing_33 : decode cX2_playComing 33 = .ok (.getfield 22, 3) := by decide +kernel
theorem dX2_playComing_36 : decode cX2_playComing 36 = .ok (.aload_n 1, 1) := by decide +kernel
theorem dX2_playComing_37 : decode cX2_playComing 37 = .ok (.getfield 46, 3) := by decide +kernel
theorem dX2_playComing_40 : decode cX2_playComing 40 = .ok (.iload_n 2, 1) := by decide +kernel
theorem dX2_playComing_41 : decode cX2_playComing 41 = .ok (.iaload, 1) := by decide +kernel
theorem dX2_playComing_42 : decode cX2_playComing 42 = .ok (.invokevirtual 49, 3) := by decide +kernel
theorem dX2_playComing_45 : decode cX2_playComing 45 = .ok (.aload_n 0, 1) := by decide +kernel
theorem dX2_playComing_46 : decode cX2_playComing 46 = .ok (.aload_n 0, 1) := by decide +kernel
theorem dX2_playComing_47 : decode cX2_playComing 47 = .ok (.getfield 22, 3) := by decide +kernel
theorem dX2_playComing_50 : decode cX2_playComing 50 = .ok (.getfield 55, 3) := by decide +kernel
theorem dX2_playComing_53 : decode cX2_playComing 53 = .ok (.putfield 9, 3) := by decide +kernel
theorem dX2_playComing_56 : decode cX2_playComing 56 = .ok (.aload_n 1, 1) := by decide +kernel
theorem dX2_playComing_57 : decode cX2_playComing 57 = .ok (.getfield 46, 3) := by decide +kernel
theorem dX2_playComing_60 : decode cX2_playComing 60 = .ok (.iload_n 2, 1) := by decide +kernel
theorem dX2_playComing_61 : decode cX2_playComing 61 = .ok (.aload_n 0, 1) := by decide +kernel
theorem dX2_playComing_62 : decode cX2_playComing 62 = .ok (.getfield 22, 3) := by decide +kernel
theorem dX2_playComing_65 : decode cX2_playComing 65 = .ok (.getfield 56, 3) := by decide +kernel
theorem dX2_playComing_68 : decode cX2_playComing 68 = .ok (.iastore, 1) := by decide +kernel
theorem dX2_playComing_69 : decode cX2_playComing 69 = .ok (.aload_n 1, 1) := by decide +kernel
theorem dX2_playComing_70 : decode cX2_playComing 70 = .ok (.iload_n 2, 1) := by decide +kernel
theorem dX2_playComing_71 : decode cX2_playComing 71 = .ok (.aload_n 0, 1) := by decide +kernel
theorem dX2_playComing_72 : decode cX2_playComing 72 = .ok (.getfield 9, 3) := by decide +kernel
theorem dX2_playComing_75 : decode cX2_playComing 75 = .ok (.invokevirtual 59, 3) := by decide +kernel
theorem dX2_playComing_78 : decode cX2_playComing 78 = .ok (.iconst 0, 1) := by decide +kernel
theorem dX2_playComing_79 : decode cX2_playComing 79 = .ok (.ireturn, 1) := by decide +kernel
theorem dX2_playBest_0 : decode cX2_playBest 0 = .ok (.aload_n 0, 1) := by decide +kernel
theorem dX2_playBest_1 : decode cX2_playBest 1 = .ok (.aload_n 1, 1) := by decide +kernel
theorem dX2_playBest_2 : decode cX2_playBest 2 = .ok (.iload_n 2, 1) := by decide +kernel
theorem dX2_playBest_3 : decode cX2_playBest 3 = .ok (.iload_n 3, 1) := by decide +kernel
theorem dX2_playBest_4 : decode cX2_playBest 4 = .ok (.invokevirtual 30, 3) := by decide +kernel
theorem dX2_playBest_7 : decode cX2_playBest 7 = .ok (.istore 4, 2) := by decide +kernel
theorem dX2_playBest_9 : decode cX2_playBest 9 = .ok (.iload 4, 2) := by decide +kernel
theorem dX2_playBest_11 : decode cX2_playBest 11 = .ok (.ifCond .eq 6, 3) := by decide +kernel
theorem dX2_playBest_14 : decode cX2_playBest 14 = .ok (.iload 4, 2) := by decide +kernel
theorem dX2_playBest_16 : decode cX2_playBest 16 = .ok (.ireturn, 1) := by decide +kernel
theorem dX2_playBest_17 : decode cX2_playBest 17 = .ok (.aload_n 0, 1) := by decide +kernel
theorem dX2_playBest_18 : decode cX2_playBest 18 = .ok (.getfield 18, 3) := by decide +kernel
theorem dX2_playBest_21 : decode cX2_playBest 21 = .ok (.iload_n 2, 1) := by decide +kernel
theorem dX2_playBest_22 : decode cX2_playBest 22 = .ok (.aload_n 1, 1) := by decide +kernel
theorem dX2_playBest_23 : decode cX2_playBest 23 = .ok (.getfield 34, 3) := by decide +kernel
theorem dX2_playBest_26 : decode cX2_playBest 26 = .ok (.iload_n 2, 1) := by decide +kernel
theorem dX2_playBest_27 : decode cX2_playBest 27 = .ok (.iaload, 1) := by decide +kernel
theorem dX2_playBest_28 : decode cX2_playBest 28 = .ok (.iload_n 3, 1) := by decide +kernel
theorem dX2_playBest_29 : decode cX2_playBest 29 = .ok (.invokevirtual 40, 3) := by decide +kernel
theorem dX2_playBest_32 : decode cX2_playBest 32 = .ok (.aload_n 1, 1) := by decide +kernel
theorem dX2_playBest_33 : decode cX2_playBest 33 = .ok (.getfield 46, 3) := by decide +kernel
theorem dX2_playBest_36 : decode cX2_playBest 36 = .ok (.iload_n 2, 1) := by decide +kernel
theorem dX2_playBest_37 : decode cX2_playBest 37 = .ok (.iaload, 1) := by decide +kernel
theorem dX2_playBest_38 : decode cX2_playBest 38 = .ok (.istore 5, 2) := by decide +kernel
theorem dX2_playBest_40 : decode cX2_playBest 40 = .ok (.aload_n 0, 1) := by decide +kernel
theorem dX2_playBest_41 : decode cX2_playBest 41 = .ok (.getfield 26, 3) := by decide +kernel
theorem dX2_playBest_44 : decode cX2_playBest 44 = .ok (.iload 5, 2) := by decide +kernel
theorem dX2_playBest_46 : decode cX2_playBest 46 = .ok (.iload 5, 2) := by decide +kernel
theorem dX2_playBest_48 : decode cX2_playBest 48 = .ok (.bipush (-20), 2) := by decide +kernel
theorem dX2_playBest_50 : decode cX2_playBest 50 = .ok (.aload_n 0, 1) := by decide +kernel
theorem dX2_playBest_51 : decode cX2_playBest 51 = .ok (.getfield 26, 3) := by decide +kernel
theorem dX2_playBest_54 : decode cX2_playBest 54 = .ok (.getfield 63, 3) := by decide +kernel
theorem dX2_playBest_57 : decode cX2_playBest 57 = .ok (.invokevirtual 68, 3) := by decide +kernel
theorem dX2_playBest_60 : decode cX2_playBest 60 = .ok (.aload_n 0, 1) := by decide +kernel
theorem dX2_playBest_61 : decode cX2_playBest 61 = .ok (.getfield 26, 3) := by decide +kernel
theorem dX2_playBest_64 : decode cX2_playBest 64 = .ok (.iload 5, 2) := by decide +kernel
theorem dX2_playBest_66 : decode cX2_playBest 66 = .ok (.invokevirtual 72, 3) := by decide +kernel
theorem dX2_playBest_69 : decode cX2_playBest 69 = .ok (.ifCond .ne 5, 3) := by decide +kernel
theorem dX2_playBest_72 : decode cX2_playBest 72 = .ok (.iconst 3, 1) := by decide +kernel
theorem dX2_playBest_73 : decode cX2_playBest 73 = .ok (.ireturn, 1) := by decide +kernel
theorem dX2_playBest_74 : decode cX2_playBest 74 = .ok (.aload_n 0, 1) := by decide +kernel
theorem dX2_playBest_75 : decode cX2_playBest 75 = .ok (.aload_n 0, 1) := by decide +kernel
theorem dX2_playBest_76 : decode cX2_playBest 76 = .ok (.getfield 26, 3) := by decide +kernel
theorem dX2_playBest_79 : decode cX2_playBest 79 = .ok (.getfield 76, 3) := by decide +kernel
theorem dX2_playBest_82 : decode cX2_playBest 82 = .ok (.putfield 9, 3) := by decide +kernel
theorem dX2_playBest_85 : decode cX2_playBest 85 = .ok (.aload_n 1, 1) := by decide +kernel
theorem dX2_playBest_86 : decode cX2_playBest 86 = .ok (.getfield 46, 3) := by decide +kernel
theorem dX2_playBest_89 : decode cX2_playBest 89 = .ok (.iload_n 2, 1) := by decide +kernel
theorem dX2_playBest_90 : decode cX2_playBest 90 = .ok (.aload_n 0, 1) := by decide +kernel
theorem dX2_playBest_91 : decode cX2_playBest 91 = .ok (.getfield 26, 3) := by decide +kernel
theorem dX2_playBest_94 : decode cX2_playBest 94 = .ok (.getfield 77, 3) := by decide +kernel
theorem dX2_playBest_97 : decode cX2_playBest 97 = .ok (.iastore, 1) := by decide +kernel
theorem dX2_playBest_98 : decode cX2_playBest 98 = .ok (.aload_n 1, 1) := by decide +kernel
theorem dX2_playBest_99 : decode cX2_playBest 99 = .ok (.iload_n 2, 1) := by decide +kernel
theorem dX2_playBest_100 : decode cX2_playBest 100 = .ok (.aload_n 0, 1) := by decide +kernel
theorem dX2_playBest_101 : decode cX2_playBest 101 = .ok (.getfield 9, 3) := by decide +kernel
theorem dX2_playBest_104 : decode cX2_playBest 104 = .ok (.invokevirtual 59, 3) := by decide +kernel
theorem dX2_playBest_107 : decode cX2_playBest 107 = .ok (.iconst 0, 1) := by decide +kernel
theorem dX2_playBest_108 : decode cX2_playBest 108 = .ok (.ireturn, 1) := by decide +kernel
theorem dX2_whyNotPlay_0 : decode cX2_whyNotPlay 0 = .ok (.aload_n 0, 1) := by decide +kernel
theorem dX2_whyNotPlay_1 : decode cX2_whyNotPlay 1 = .ok (.getfield 18, 3) := by decide +kernel
theorem dX2_whyNotPlay_4 : decode cX2_whyNotPlay 4 = .ok (.getfield 78, 3) := by decide +kernel
theorem dX2_whyNotPlay_7 : decode cX2_whyNotPlay 7 = .ok (.iload_n 2, 1) := by decide +kernel
theorem dX2_whyNotPlay_8 : decode cX2_whyNotPlay 8 = .ok (.invokevirtual 82, 3) := by decide +kernel
theorem dX2_whyNotPlay_11 : decode cX2_whyNotPlay 11 = .ok (.ifCond .eq 17, 3) := by decide +kernel
theorem dX2_whyNotPlay_14 : decode cX2_whyNotPlay 14 = .ok (.aload_n 0, 1) := by decide +kernel
theorem dX2_whyNotPlay_15 : decode cX2_whyNotPlay 15 = .ok (.getfield 18, 3) := by decide +kernel
theorem dX2_whyNotPlay_18 : decode cX2_whyNotPlay 18 = .ok (.getfield 78, 3) := by decide +kernel
theorem dX2_whyNotPlay_21 : decode cX2_whyNotPlay 21 = .ok (.iload_n 3, 1) := by decide +kernel
theorem dX2_whyNotPlay_22 : decode cX2_whyNotPlay 22 = .ok (.invokevirtual 87, 3) := by decide +kernel
theorem dX2_whyNotPlay_25 : decode cX2_whyNotPlay 25 = .ok (.ifCond .ne 5, 3) := by decide +kernel
theorem dX2_whyNotPlay_28 : decode cX2_whyNotPlay 28 = .ok (.iconst 1, 1) := by decide +kernel
theorem dX2_whyNotPlay_29 : decode cX2_whyNotPlay 29 = .ok (.ireturn, 1) := by decide +kernel
theorem dX2_whyNotPlay_30 : decode cX2_whyNotPlay 30 = .ok (.aload_n 1, 1) := by decide +kernel
theorem dX2_whyNotPlay_31 : decode cX2_whyNotPlay 31 = .ok (.iload_n 2, 1) := by decide +kernel
theorem dX2_whyNotPlay_32 : decode cX2_whyNotPlay 32 = .ok (.invokevirtual 90, 3) := by decide +kernel
theorem dX2_whyNotPlay_35 : decode cX2_whyNotPlay 35 = .ok (.ifCond .eq 7, 3) := by decide +kernel
theorem dX2_whyNotPlay_38 : decode cX2_whyNotPlay 38 = .ok (.iconst 2, 1) := by decide +kernel
theorem dX2_whyNotPlay_39 : decode cX2_whyNotPlay 39 = .ok (.goto 4, 3) := by decide +kernel
theorem dX2_whyNotPlay_42 : decode cX2_whyNotPlay 42 = .ok (.iconst 0, 1) := by decide +kernel
theorem dX2_whyNotPlay_43 : decode cX2_whyNotPlay 43 = .ok (.ireturn, 1) := by decide +kernel
theorem dX2_lendTicks_0 : decode cX2_lendTicks 0 = .ok (.aload_n 0, 1) := by decide +kernel
theorem dX2_lendTicks_1 : decode cX2_lendTicks 1 = .ok (.getfield 18, 3) := by decide +kernel
theorem dX2_lendTicks_4 : decode cX2_lendTicks 4 = .ok (.getfield 78, 3) := by decide +kernel
theorem dX2_lendTicks_7 : decode cX2_lendTicks 7 = .ok (.iload_n 2, 1) := by decide +kernel
theorem dX2_lendTicks_8 : decode cX2_lendTicks 8 = .ok (.invokevirtual 82, 3) := by decide +kernel
theorem dX2_lendTicks_11 : decode cX2_lendTicks 11 = .ok (.ifCond .eq 26, 3) := by decide +kernel
theorem dX2_lendTicks_14 : decode cX2_lendTicks 14 = .ok (.aload_n 0, 1) := by decide +kernel
theorem dX2_lendTicks_15 : decode cX2_lendTicks 15 = .ok (.getfield 18, 3) := by decide +kernel
theorem dX2_lendTicks_18 : decode cX2_lendTicks 18 = .ok (.getfield 78, 3) := by decide +kernel
theorem dX2_lendTicks_21 : decode cX2_lendTicks 21 = .ok (.iload_n 3, 1) := by decide +kernel
theorem dX2_lendTicks_22 : decode cX2_lendTicks 22 = .ok (.invokevirtual 82, 3) := by decide +kernel
theorem dX2_lendTicks_25 : decode cX2_lendTicks 25 = .ok (.ifCond .eq 12, 3) := by decide +kernel
theorem dX2_lendTicks_28 : decode cX2_lendTicks 28 = .ok (.iload_n 2, 1) := by decide +kernel
theorem dX2_lendTicks_29 : decode cX2_lendTicks 29 = .ok (.iload_n 3, 1) := by decide +kernel
theorem dX2_lendTicks_30 : decode cX2_lendTicks 30 = .ok (.if_icmp .eq 7, 3) := by decide +kernel
theorem dX2_lendTicks_33 : decode cX2_lendTicks 33 = .ok (.iconst 1, 1) := by decide +kernel
theorem dX2_lendTicks_34 : decode cX2_lendTicks 34 = .ok (.goto 4, 3) := by decide +kernel
theorem dX2_lendTicks_37 : decode cX2_lendTicks 37 = .ok (.iconst 0, 1) := by decide +kernel
theorem dX2_lendTicks_38 : decode cX2_lendTicks 38 = .ok (.istore 5, 2) := by decide +kernel
theorem dX2_lendTicks_40 : decode cX2_lendTicks 40 = .ok (.iload 5, 2) := by decide +kernel
theorem dX2_lendTicks_42 : decode cX2_lendTicks 42 = .ok (.ifCond .eq 16, 3) := by decide +kernel
theorem dX2_lendTicks_45 : decode cX2_lendTicks 45 = .ok (.iload 4, 2) := by decide +kernel
theorem dX2_lendTicks_47 : decode cX2_lendTicks 47 = .ok (.iconst 1, 1) := by decide +kernel
theorem dX2_lendTicks_48 : decode cX2_lendTicks 48 = .ok (.if_icmp .lt 10, 3) := by decide +kernel
theorem dX2_lendTicks_51 : decode cX2_lendTicks 51 = .ok (.iload 4, 2) := by decide +kernel
theorem dX2_lendTicks_53 : decode cX2_lendTicks 53 = .ok (.bipush 40, 2) := by decide +kernel
theorem dX2_lendTicks_55 : decode cX2_lendTicks 55 = .ok (.if_icmp .le 5, 3) := by decide +kernel
theorem dX2_lendTicks_58 : decode cX2_lendTicks 58 = .ok (.iconst 1, 1) := by decide +kernel
theorem dX2_lendTicks_59 : decode cX2_lendTicks 59 = .ok (.ireturn, 1) := by decide +kernel
theorem dX2_lendTicks_60 : decode cX2_lendTicks 60 = .ok (.aload_n 1, 1) := by decide +kernel
theorem dX2_lendTicks_61 : decode cX2_lendTicks 61 = .ok (.getfield 46, 3) := by decide +kernel
theorem dX2_lendTicks_64 : decode cX2_lendTicks 64 = .ok (.iload_n 2, 1) := by decide +kernel
theorem dX2_lendTicks_65 : decode cX2_lendTicks 65 = .ok (.iaload, 1) := by decide +kernel
theorem dX2_lendTicks_66 : decode cX2_lendTicks 66 = .ok (.iload 4, 2) := by decide +kernel
theorem dX2_lendTicks_68 : decode cX2_lendTicks 68 = .ok (.isub, 1) := by decide +kernel
theorem dX2_lendTicks_69 : decode cX2_lendTicks 69 = .ok (.bipush (-20), 2) := by decide +kernel
theorem dX2_lendTicks_71 : decode cX2_lendTicks 71 = .ok (.if_icmp .lt 17, 3) := by decide +kernel
theorem dX2_lendTicks_74 : decode cX2_lendTicks 74 = .ok (.aload_n 1, 1) := by decide +kernel
theorem dX2_lendTicks_75 : decode cX2_lendTicks 75 = .ok (.getfield 46, 3) := by decide +kernel
theorem dX2_lendTicks_78 : decode cX2_lendTicks 78 = .ok (.iload_n 3, 1) := by decide +kernel
theorem dX2_lendTicks_79 : decode cX2_lendTicks 79 = .ok (.iaload, 1) := by decide +kernel
theorem dX2_lendTicks_80 : decode cX2_lendTicks 80 = .ok (.iload 4, 2) := by decide +kernel
theorem dX2_lendTicks_82 : decode cX2_lendTicks 82 = .ok (.iadd, 1) := by decide +kernel
theorem dX2_lendTicks_83 : decode cX2_lendTicks 83 = .ok (.bipush 20, 2) := by decide +kernel
theorem dX2_lendTicks_85 : decode cX2_lendTicks 85 = .ok (.if_icmp .le 5, 3) := by decide +kernel
theorem dX2_lendTicks_88 : decode cX2_lendTicks 88 = .ok (.iconst 3, 1) := by decide +kernel
theorem dX2_lendTicks_89 : decode cX2_lendTicks 89 = .ok (.ireturn, 1) := by decide +kernel
theorem dX2_lendTicks_90 : decode cX2_lendTicks 90 = .ok (.aload_n 1, 1) := by decide +kernel
theorem dX2_lendTicks_91 : decode cX2_lendTicks 91 = .ok (.getfield 46, 3) := by decide +kernel
theorem dX2_lendTicks_94 : decode cX2_lendTicks 94 = .ok (.iload_n 2, 1) := by decide +kernel
theorem dX2_lendTicks_95 : decode cX2_lendTicks 95 = .ok (.dup2, 1) := by decide +kernel
theorem dX2_lendTicks_96 : decode cX2_lendTicks 96 = .ok (.iaload, 1) := by decide +kernel
theorem dX2_lendTicks_97 : decode cX2_lendTicks 97 = .ok (.iload 4, 2) := by decide +kernel
theorem dX2_lendTicks_99 : decode cX2_lendTicks 99 = .ok (.isub, 1) := by decide +kernel
theorem dX2_lendTicks_100 : decode cX2_lendTicks 100 = .ok (.iastore, 1) := by decide +kernel
theorem dX2_lendTicks_101 : decode cX2_lendTicks 101 = .ok (.aload_n 1, 1) := by decide +kernel
theorem dX2_lendTicks_102 : decode cX2_lendTicks 102 = .ok (.getfield 46, 3) := by decide +kernel
theorem dX2_lendTicks_105 : decode cX2_lendTicks 105 = .ok (.iload_n 3, 1) := by decide +kernel
theorem dX2_lendTicks_106 : decode cX2_lendTicks 106 = .ok (.dup2, 1) := by decide +kernel
theorem dX2_lendTicks_107 : decode cX2_lendTicks 107 = .ok (.iaload, 1) := by decide +kernel
theorem dX2_lendTicks_108 : decode cX2_lendTicks 108 = .ok (.iload 4, 2) := by decide +kernel
theorem dX2_lendTicks_110 : decode cX2_lendTicks 110 = .ok (.iadd, 1) := by decide +kernel
theorem dX2_lendTicks_111 : decode cX2_lendTicks 111 = .ok (.iastore, 1) := by decide +kernel
theorem dX2_lendTicks_112 : decode cX2_lendTicks 112 = .ok (.iconst 0, 1) := by decide +kernel
theorem dX2_lendTicks_113 : decode cX2_lendTicks 113 = .ok (.ireturn, 1) := by decide +kernel
theorem dX2_haveTemper_0 : decode cX2_haveTemper 0 = .ok (.aload_n 0, 1) := by decide +kernel
theorem dX2_haveTemper_1 : decode cX2_haveTemper 1 = .ok (.getfield 18, 3) := by decide +kernel
theorem dX2_haveTemper_4 : decode cX2_haveTemper 4 = .ok (.getfield 78, 3) := by decide +kernel
theorem dX2_haveTemper_7 : decode cX2_haveTemper 7 = .ok (.iload_n 2, 1) := by decide +kernel
theorem dX2_haveTemper_8 : decode cX2_haveTemper 8 = .ok (.invokevirtual 82, 3) := by decide +kernel
theorem dX2_haveTemper_11 : decode cX2_haveTemper 11 = .ok (.ifCond .eq 13, 3) := by decide +kernel
theorem dX2_haveTemper_14 : decode cX2_haveTemper 14 = .ok (.iload_n 3, 1) := by decide +kernel
theorem dX2_haveTemper_15 : decode cX2_haveTemper 15 = .ok (.ifCond .lt 9, 3) := by decide +kernel
theorem dX2_haveTemper_18 : decode cX2_haveTemper 18 = .ok (.iload_n 3, 1) := by decide +kernel
theorem dX2_haveTemper_19 : decode cX2_haveTemper 19 = .ok (.bipush 9, 2) := by decide +kernel
theorem dX2_haveTemper_21 : decode cX2_haveTemper 21 = .ok (.if_icmp .le 5, 3) := by decide +kernel
theorem dX2_haveTemper_24 : decode cX2_haveTemper 24 = .ok (.iconst 1, 1) := by decide +kernel
theorem dX2_haveTemper_25 : decode cX2_haveTemper 25 = .ok (.ireturn, 1) := by decide +kernel
theorem dX2_haveTemper_26 : decode cX2_haveTemper 26 = .ok (.aload_n 1, 1) := by decide +kernel
theorem dX2_haveTemper_27 : decode cX2_haveTemper 27 = .ok (.getfield 34, 3) := by decide +kernel
theorem dX2_haveTemper_30 : decode cX2_haveTemper 30 = .ok (.iload_n 2, 1) := by decide +kernel
theorem dX2_haveTemper_31 : decode cX2_haveTemper 31 = .ok (.iload_n 3, 1) := by decide +kernel
theorem dX2_haveTemper_32 : decode cX2_haveTemper 32 = .ok (.iastore, 1) := by decide +kernel
theorem dX2_haveTemper_33 : decode cX2_haveTemper 33 = .ok (.iconst 0, 1) := by decide +kernel
theorem dX2_haveTemper_34 : decode cX2_haveTemper 34 = .ok (.ireturn, 1) := by decide +kernel
theorem dX2_holdFriday_0 : decode cX2_holdFriday 0 = .ok (.aload_n 1, 1) := by decide +kernel
theorem dX2_holdFriday_1 : decode cX2_holdFriday 1 = .ok (.iconst 0, 1) := by decide +kernel
theorem dX2_holdFriday_2 : decode cX2_holdFriday 2 = .ok (.putfield 93, 3) := by decide +kernel
theorem dX2_holdFriday_5 : decode cX2_holdFriday 5 = .ok (.iconst 0, 1) := by decide +kernel
theorem dX2_holdFriday_6 : decode cX2_holdFriday 6 = .ok (.istore_n 2, 1) := by decide +kernel
theorem dX2_holdFriday_7 : decode cX2_holdFriday 7 = .ok (.iload_n 2, 1) := by decide +kernel
theorem dX2_holdFriday_8 : decode cX2_holdFriday 8 = .ok (.aload_n 1, 1) := by decide +kernel
theorem dX2_holdFriday_9 : decode cX2_holdFriday 9 = .ok (.getfield 46, 3) := by decide +kernel
theorem dX2_holdFriday_12 : decode cX2_holdFriday 12 = .ok (.arraylength, 1) := by decide +kernel
theorem dX2_holdFriday_13 : decode cX2_holdFriday 13 = .ok (.if_icmp .ge 30, 3) := by decide +kernel
theorem dX2_holdFriday_16 : decode cX2_holdFriday 16 = .ok (.aload_n 1, 1) := by decide +kernel
theorem dX2_holdFriday_17 : decode cX2_holdFriday 17 = .ok (.getfield 46, 3) := by decide +kernel
theorem dX2_holdFriday_20 : decode cX2_holdFriday 20 = .ok (.iload_n 2, 1) := by decide +kernel
theorem dX2_holdFriday_21 : decode cX2_holdFriday 21 = .ok (.iaload, 1) := by decide +kernel
theorem dX2_holdFriday_22 : decode cX2_holdFriday 22 = .ok (.ifCond .ge 15, 3) := by decide +kernel
theorem dX2_holdFriday_25 : decode cX2_holdFriday 25 = .ok (.aload_n 1, 1) := by decide +kernel
theorem dX2_holdFriday_26 : decode cX2_holdFriday 26 = .ok (.dup, 1) := by decide +kernel
theorem dX2_holdFriday_27 : decode cX2_holdFriday 27 = .ok (.getfield 93, 3) := by decide +kernel
theorem dX2_holdFriday_30 : decode cX2_holdFriday 30 = .ok (.iconst 1, 1) := by decide +kernel
theorem dX2_holdFriday_31 : decode cX2_holdFriday 31 = .ok (.iload_n 2, 1) := by decide +kernel
theorem dX2_holdFriday_32 : decode cX2_holdFriday 32 = .ok (.ishl, 1) := by decide +kernel
theorem dX2_holdFriday_33 : decode cX2_holdFriday 33 = .ok (.ior, 1) := by decide +kernel
theorem dX2_holdFriday_34 : decode cX2_holdFriday 34 = .ok (.putfield 93, 3) := by decide +kernel
theorem dX2_holdFriday_37 : decode cX2_holdFriday 37 = .ok (.iinc 2 1, 3) := by decide +kernel
theorem dX2_holdFriday_40 : decode cX2_holdFriday 40 = .ok (.goto (-33), 3) := by decide +kernel
theorem dX2_holdFriday_43 : decode cX2_holdFriday 43 = .ok (.aload_n 1, 1) := by decide +kernel
theorem dX2_holdFriday_44 : decode cX2_holdFriday 44 = .ok (.dup, 1) := by decide +kernel
theorem dX2_holdFriday_45 : decode cX2_holdFriday 45 = .ok (.getfield 96, 3) := by decide +kernel
theorem dX2_holdFriday_48 : decode cX2_holdFriday 48 = .ok (.iconst 1, 1) := by decide +kernel
theorem dX2_holdFriday_49 : decode cX2_holdFriday 49 = .ok (.iadd, 1) := by decide +kernel
theorem dX2_holdFriday_50 : decode cX2_holdFriday 50 = .ok (.putfield 96, 3) := by decide +kernel
theorem dX2_holdFriday_53 : decode cX2_holdFriday 53 = .ok (.iconst 0, 1) := by decide +kernel
theorem dX2_holdFriday_54 : decode cX2_holdFriday 54 = .ok (.ireturn, 1) := by decide +kernel
theorem dX2_doTold_0 : decode cX2_doTold 0 = .ok (.lload_n 2, 1) := by decide +kernel
theorem dX2_doTold_1 : decode cX2_doTold 1 = .ok (.ldc2_w 99, 3) := by decide +kernel
theorem dX2_doTold_4 : decode cX2_doTold 4 = .ok (.lcmp, 1) := by decide +kernel
theorem dX2_doTold_5 : decode cX2_doTold 5 = .ok (.ifCond .ne 9, 3) := by decide +kernel
theorem dX2_doTold_8 : decode cX2_doTold 8 = .ok (.aload_n 0, 1) := by decide +kernel
theorem dX2_doTold_9 : decode cX2_doTold 9 = .ok (.aload_n 1, 1) := by decide +kernel
theorem dX2_doTold_10 : decode cX2_doTold 10 = .ok (.invokevirtual 101, 3) := by decide +kernel
theorem dX2_doTold_13 : decode cX2_doTold 13 = .ok (.ireturn, 1) := by decide +kernel
theorem dX2_doTold_14 : decode cX2_doTold 14 = .ok (.lload_n 2, 1) := by decide +kernel
theorem dX2_doTold_15 : decode cX2_doTold 15 = .ok (.lconst 0, 1) := by decide +kernel
theorem dX2_doTold_16 : decode cX2_doTold 16 = .ok (.lcmp, 1) := by decide +kernel
theorem dX2_doTold_17 : decode cX2_doTold 17 = .ok (.ifCond .lt 11, 3) := by decide +kernel
theorem dX2_doTold_20 : decode cX2_doTold 20 = .ok (.lload_n 2, 1) := by decide +kernel
theorem dX2_doTold_21 : decode cX2_doTold 21 = .ok (.ldc2_w 105, 3) := by decide +kernel
theorem dX2_doTold_24 : decode cX2_doTold 24 = .ok (.lcmp, 1) := by decide +kernel
theorem dX2_doTold_25 : decode cX2_doTold 25 = .ok (.ifCond .le 5, 3) := by decide +kernel
theorem dX2_doTold_28 : decode cX2_doTold 28 = .ok (.iconst 1, 1) := by decide +kernel
theorem dX2_doTold_29 : decode cX2_doTold 29 = .ok (.ireturn, 1) := by decide +kernel
theorem dX2_doTold_30 : decode cX2_doTold 30 = .ok (.lload_n 2, 1) := by decide +kernel
theorem dX2_doTold_31 : decode cX2_doTold 31 = .ok (.l2i, 1) := by decide +kernel
theorem dX2_doTold_32 : decode cX2_doTold 32 = .ok (.istore 4, 2) := by decide +kernel
theorem dX2_doTold_34 : decode cX2_doTold 34 = .ok (.iload 4, 2) := by decide +kernel
theorem dX2_doTold_36 : decode cX2_doTold 36 = .ok (.bipush 100, 2) := by decide +kernel
theorem dX2_doTold_38 : decode cX2_doTold 38 = .ok (.if_icmp .ge 19, 3) := by decide +kernel
theorem dX2_doTold_41 : decode cX2_doTold 41 = .ok (.aload_n 0, 1) := by decide +kernel
theorem dX2_doTold_42 : decode cX2_doTold 42 = .ok (.aload_n 1, 1) := by decide +kernel
theorem dX2_doTold_43 : decode cX2_doTold 43 = .ok (.iload 4, 2) := by decide +kernel
theorem dX2_doTold_45 : decode cX2_doTold 45 = .ok (.bipush 10, 2) := by decide +kernel
theorem dX2_doTold_47 : decode cX2_doTold 47 = .ok (.idiv, 1) := by decide +kernel
theorem dX2_doTold_48 : decode cX2_doTold 48 = .ok (.iload 4, 2) := by decide +kernel
theorem dX2_doTold_50 : decode cX2_doTold 50 = .ok (.bipush 10, 2) := by decide +kernel
theorem dX2_doTold_52 : decode cX2_doTold 52 = .ok (.irem, 1) := by decide +kernel
theorem dX2_doTold_53 : decode cX2_doTold 53 = .ok (.invokevirtual 107, 3) := by decide +kernel
theorem dX2_doTold_56 : decode cX2_doTold 56 = .ok (.ireturn, 1) := by decide +kernel
theorem dX2_doTold_57 : decode cX2_doTold 57 = .ok (.iload 4, 2) := by decide +kernel
theorem dX2_doTold_59 : decode cX2_doTold 59 = .ok (.sipush 200, 3) := by decide +kernel
theorem dX2_doTold_62 : decode cX2_doTold 62 = .ok (.if_icmp .ge 22, 3) := by decide +kernel
theorem dX2_doTold_65 : decode cX2_doTold 65 = .ok (.aload_n 0, 1) := by decide +kernel
theorem dX2_doTold_66 : decode cX2_doTold 66 = .ok (.aload_n 1, 1) := by decide +kernel
theorem dX2_doTold_67 : decode cX2_doTold 67 = .ok (.iload 4, 2) := by decide +kernel
theorem dX2_doTold_69 : decode cX2_doTold 69 = .ok (.bipush 10, 2) := by decide +kernel
theorem dX2_doTold_71 : decode cX2_doTold 71 = .ok (.idiv, 1) := by decide +kernel
theorem dX2_doTold_72 : decode cX2_doTold 72 = .ok (.bipush 10, 2) := by decide +kernel
theorem dX2_doTold_74 : decode cX2_doTold 74 = .ok (.isub, 1) := by decide +kernel
theorem dX2_doTold_75 : decode cX2_doTold 75 = .ok (.iload 4, 2) := by decide +kernel
theorem dX2_doTold_77 : decode cX2_doTold 77 = .ok (.bipush 10, 2) := by decide +kernel
theorem dX2_doTold_79 : decode cX2_doTold 79 = .ok (.irem, 1) := by decide +kernel
theorem dX2_doTold_80 : decode cX2_doTold 80 = .ok (.invokevirtual 110, 3) := by decide +kernel
theorem dX2_doTold_83 : decode cX2_doTold 83 = .ok (.ireturn, 1) := by decide +kernel
theorem dX2_doTold_84 : decode cX2_doTold 84 = .ok (.iload 4, 2) := by decide +kernel
theorem dX2_doTold_86 : decode cX2_doTold 86 = .ok (.sipush 1000, 3) := by decide +kernel
theorem dX2_doTold_89 : decode cX2_doTold 89 = .ok (.if_icmp .ge 7, 3) := by decide +kernel
theorem dX2_doTold_92 : decode cX2_doTold 92 = .ok (.iconst 1, 1) := by decide +kernel
theorem dX2_doTold_93 : decode cX2_doTold 93 = .ok (.goto 29, 3) := by decide +kernel
theorem dX2_doTold_96 : decode cX2_doTold 96 = .ok (.aload_n 0, 1) := by decide +kernel
theorem dX2_doTold_97 : decode cX2_doTold 97 = .ok (.aload_n 1, 1) := by decide +kernel
theorem dX2_doTold_98 : decode cX2_doTold 98 = .ok (.iload 4, 2) := by decide +kernel
theorem dX2_doTold_100 : decode cX2_doTold 100 = .ok (.sipush 1000, 3) := by decide +kernel
theorem dX2_doTold_103 : decode cX2_doTold 103 = .ok (.idiv, 1) := by decide +kernel
theorem dX2_doTold_104 : decode cX2_doTold 104 = .ok (.iconst 1, 1) := by decide +kernel
theorem dX2_doTold_105 : decode cX2_doTold 105 = .ok (.isub, 1) := by decide +kernel
theorem dX2_doTold_106 : decode cX2_doTold 106 = .ok (.iload 4, 2) := by decide +kernel
theorem dX2_doTold_108 : decode cX2_doTold 108 = .ok (.bipush 100, 2) := by decide +kernel
theorem dX2_doTold_110 : decode cX2_doTold 110 = .ok (.idiv, 1) := by decide +kernel
theorem dX2_doTold_111 : decode cX2_doTold 111 = .ok (.bipush 10, 2) := by decide +kernel
theorem dX2_doTold_113 : decode cX2_doTold 113 = .ok (.irem, 1) := by decide +kernel
theorem dX2_doTold_114 : decode cX2_doTold 114 = .ok (.iload 4, 2) := by decide +kernel
theorem dX2_doTold_116 : decode cX2_doTold 116 = .ok (.bipush 100, 2) := by decide +kernel
theorem dX2_doTold_118 : decode cX2_doTold 118 = .ok (.irem, 1) := by decide +kernel
theorem dX2_doTold_119 : decode cX2_doTold 119 = .ok (.invokevirtual 113, 3) := by decide +kernel
theorem dX2_doTold_122 : decode cX2_doTold 122 = .ok (.ireturn, 1) := by decide +kernel
theorem dX2_sow_0 : decode cX2_sow 0 = .ok (.aload_n 0, 1) := by decide +kernel
theorem dX2_sow_1 : decode cX2_sow 1 = .ok (.iload_n 1, 1) := by decide +kernel
theorem dX2_sow_2 : decode cX2_sow 2 = .ok (.putfield 15, 3) := by decide +kernel
theorem dX2_sow_5 : decode cX2_sow 5 = .ok (.return_, 1) := by decide +kernel
theorem dX2_drawn_0 : decode cX2_drawn 0 = .ok (.aload_n 0, 1) := by decide +kernel
theorem dX2_drawn_1 : decode cX2_drawn 1 = .ok (.ldc 117, 2) := by decide +kernel
theorem dX2_drawn_3 : decode cX2_drawn 3 = .ok (.aload_n 0, 1) := by decide +kernel
theorem dX2_drawn_4 : decode cX2_drawn 4 = .ok (.getfield 15, 3) := by decide +kernel
theorem dX2_drawn_7 : decode cX2_drawn 7 = .ok (.imul, 1) := by decide +kernel
theorem dX2_drawn_8 : decode cX2_drawn 8 = .ok (.sipush 12345, 3) := by decide +kernel
theorem dX2_drawn_11 : decode cX2_drawn 11 = .ok (.iadd, 1) := by decide +kernel
theorem dX2_drawn_12 : decode cX2_drawn 12 = .ok (.putfield 15, 3) := by decide +kernel
theorem dX2_drawn_15 : decode cX2_drawn 15 = .ok (.iload_n 1, 1) := by decide +kernel
theorem dX2_drawn_16 : decode cX2_drawn 16 = .ok (.ifCond .le 15, 3) := by decide +kernel
theorem dX2_drawn_19 : decode cX2_drawn 19 = .ok (.aload_n 0, 1) := by decide +kernel
theorem dX2_drawn_20 : decode cX2_drawn 20 = .ok (.getfield 15, 3) := by decide +kernel
theorem dX2_drawn_23 : decode cX2_drawn 23 = .ok (.bipush 16, 2) := by decide +kernel
theorem dX2_drawn_25 : decode cX2_drawn 25 = .ok (.iushr, 1) := by decide +kernel
theorem dX2_drawn_26 : decode cX2_drawn 26 = .ok (.iload_n 1, 1) := by decide +kernel
theorem dX2_drawn_27 : decode cX2_drawn 27 = .ok (.irem, 1) := by decide +kernel
theorem dX2_drawn_28 : decode cX2_drawn 28 = .ok (.goto 4, 3) := by decide +kernel
theorem dX2_drawn_31 : decode cX2_drawn 31 = .ok (.iconst 0, 1) := by decide +kernel
theorem dX2_drawn_32 : decode cX2_drawn 32 = .ok (.ireturn, 1) := by decide +kernel
theorem dX2_doDrawn_0 : decode cX2_doDrawn 0 = .ok (.aload_n 0, 1) := by decide +kernel
theorem dX2_doDrawn_1 : decode cX2_doDrawn 1 = .ok (.iconst 5, 1) := by decide +kernel
theorem dX2_doDrawn_2 : decode cX2_doDrawn 2 = .ok (.invokevirtual 118, 3) := by decide +kernel
theorem dX2_doDrawn_5 : decode cX2_doDrawn 5 = .ok (.istore_n 2, 1) := by decide +kernel
theorem dX2_doDrawn_6 : decode cX2_doDrawn 6 = .ok (.iload_n 2, 1) := by decide +kernel
theorem dX2_doDrawn_7 : decode cX2_doDrawn 7 = .ok (.ifCond .ne 9, 3) := by decide +kernel
theorem dX2_doDrawn_10 : decode cX2_doDrawn 10 = .ok (.aload_n 0, 1) := by decide +kernel
theorem dX2_doDrawn_11 : decode cX2_doDrawn 11 = .ok (.aload_n 1, 1) := by decide +kernel
theorem dX2_doDrawn_12 : decode cX2_doDrawn 12 = .ok (.invokevirtual 101, 3) := by decide +kernel
theorem dX2_doDrawn_15 : decode cX2_doDrawn 15 = .ok (.ireturn, 1) := by decide +kernel
theorem dX2_doDrawn_16 : decode cX2_doDrawn 16 = .ok (.aload_n 0, 1) := by decide +kernel
theorem dX2_doDrawn_17 : decode cX2_doDrawn 17 = .ok (.iconst 5, 1) := by decide +kernel
theorem dX2_doDrawn_18 : decode cX2_doDrawn 18 = .ok (.invokevirtual 118, 3) := by decide +kernel
theorem dX2_doDrawn_21 : decode cX2_doDrawn 21 = .ok (.istore_n 3, 1) := by decide +kernel
theorem dX2_doDrawn_22 : decode cX2_doDrawn 22 = .ok (.iload_n 2, 1) := by decide +kernel
theorem dX2_doDrawn_23 : decode cX2_doDrawn 23 = .ok (.iconst 4, 1) := by decide +kernel
theorem dX2_doDrawn_24 : decode cX2_doDrawn 24 = .ok (.if_icmp .ne 16, 3) := by decide +kernel
theorem dX2_doDrawn_27 : decode cX2_doDrawn 27 = .ok (.aload_n 0, 1) := by decide +kernel
theorem dX2_doDrawn_28 : decode cX2_doDrawn 28 = .ok (.aload_n 1, 1) := by decide +kernel
theorem dX2_doDrawn_29 : decode cX2_doDrawn 29 = .ok (.iload_n 3, 1) := by decide +kernel
theorem dX2_doDrawn_30 : decode cX2_doDrawn 30 = .ok (.aload_n 0, 1) := by decide +kernel
theorem dX2_doDrawn_31 : decode cX2_doDrawn 31 = .ok (.bipush 10, 2) := by decide +kernel
theorem dX2_doDrawn_33 : decode cX2_doDrawn 33 = .ok (.invokevirtual 118, 3) := by decide +kernel
theorem dX2_doDrawn_36 : decode cX2_doDrawn 36 = .ok (.invokevirtual 122, 3) := by decide +kernel
theorem dX2_doDrawn_39 : decode cX2_doDrawn 39 = .ok (.ireturn, 1) := by decide +kernel
theorem dX2_doDrawn_40 : decode cX2_doDrawn 40 = .ok (.aload_n 0, 1) := by decide +kernel
theorem dX2_doDrawn_41 : decode cX2_doDrawn 41 = .ok (.iconst 5, 1) := by decide +kernel
theorem dX2_doDrawn_42 : decode cX2_doDrawn 42 = .ok (.invokevirtual 118, 3) := by decide +kernel
theorem dX2_doDrawn_45 : decode cX2_doDrawn 45 = .ok (.istore 4, 2) := by decide +kernel
theorem dX2_doDrawn_47 : decode cX2_doDrawn 47 = .ok (.iload_n 2, 1) := by decide +kernel
theorem dX2_doDrawn_48 : decode cX2_doDrawn 48 = .ok (.iconst 3, 1) := by decide +kernel
theorem dX2_doDrawn_49 : decode cX2_doDrawn 49 = .ok (.if_icmp .ne 20, 3) := by decide +kernel
theorem dX2_doDrawn_52 : decode cX2_doDrawn 52 = .ok (.aload_n 0, 1) := by decide +kernel
theorem dX2_doDrawn_53 : decode cX2_doDrawn 53 = .ok (.aload_n 1, 1) := by decide +kernel
theorem dX2_doDrawn_54 : decode cX2_doDrawn 54 = .ok (.iload_n 3, 1) := by decide +kernel
theorem dX2_doDrawn_55 : decode cX2_doDrawn 55 = .ok (.iload 4, 2) := by decide +kernel
theorem dX2_doDrawn_57 : decode cX2_doDrawn 57 = .ok (.iconst 1, 1) := by decide +kernel
theorem dX2_doDrawn_58 : decode cX2_doDrawn 58 = .ok (.aload_n 0, 1) := by decide +kernel
theorem dX2_doDrawn_59 : decode cX2_doDrawn 59 = .ok (.bipush 9, 2) := by decide +kernel
theorem dX2_doDrawn_61 : decode cX2_doDrawn 61 = .ok (.invokevirtual 118, 3) := by decide +kernel
theorem dX2_doDrawn_64 : decode cX2_doDrawn 64 = .ok (.iadd, 1) := by decide +kernel
theorem dX2_doDrawn_65 : decode cX2_doDrawn 65 = .ok (.invokevirtual 113, 3) := by decide +kernel
theorem dX2_doDrawn_68 : decode cX2_doDrawn 68 = .ok (.ireturn, 1) := by decide +kernel
theorem dX2_doDrawn_69 : decode cX2_doDrawn 69 = .ok (.iload_n 2, 1) := by decide +kernel
theorem dX2_doDrawn_70 : decode cX2_doDrawn 70 = .ok (.iconst 1, 1) := by decide +kernel
theorem dX2_doDrawn_71 : decode cX2_doDrawn 71 = .ok (.if_icmp .ne 14, 3) := by decide +kernel
theorem dX2_doDrawn_74 : decode cX2_doDrawn 74 = .ok (.aload_n 0, 1) := by decide +kernel
theorem dX2_doDrawn_75 : decode cX2_doDrawn 75 = .ok (.aload_n 1, 1) := by decide +kernel
theorem dX2_doDrawn_76 : decode cX2_doDrawn 76 = .ok (.iload_n 3, 1) := by decide +kernel
theorem dX2_doDrawn_77 : decode cX2_doDrawn 77 = .ok (.iload 4, 2) := by decide +kernel
theorem dX2_doDrawn_79 : decode cX2_doDrawn 79 = .ok (.invokevirtual 107, 3) := by decide +kernel
theorem dX2_doDrawn_82 : decode cX2_doDrawn 82 = .ok (.goto 11, 3) := by decide +kernel
theorem dX2_doDrawn_85 : decode cX2_doDrawn 85 = .ok (.aload_n 0, 1) := by decide +kernel
theorem dX2_doDrawn_86 : decode cX2_doDrawn 86 = .ok (.aload_n 1, 1) := by decide +kernel
theorem dX2_doDrawn_87 : decode cX2_doDrawn 87 = .ok (.iload_n 3, 1) := by decide +kernel
theorem dX2_doDrawn_88 : decode cX2_doDrawn 88 = .ok (.iload 4, 2) := by decide +kernel
theorem dX2_doDrawn_90 : decode cX2_doDrawn 90 = .ok (.invokevirtual 110, 3) := by decide +kernel
theorem dX2_doDrawn_93 : decode cX2_doDrawn 93 = .ok (.ireturn, 1) := by decide +kernel
theorem dX3_init_0 : decode cX3_init 0 = .ok (.aload_n 0, 1) := by decide +kernel
theorem dX3_init_1 : decode cX3_init 1 = .ok (.invokespecial 3, 3) := by decide +kernel
theorem dX3_init_4 : decode cX3_init 4 = .ok (.aload_n 0, 1) := by decide +kernel
theorem dX3_init_5 : decode cX3_init 5 = .ok (.iconst 0, 1) := by decide +kernel
theorem dX3_init_6 : decode cX3_init 6 = .ok (.putfield 9, 3) := by decide +kernel
theorem dX3_init_9 : decode cX3_init 9 = .ok (.aload_n 0, 1) := by decide +kernel
theorem dX3_init_10 : decode cX3_init 10 = .ok (.bipush 10, 2) := by decide +kernel
theorem dX3_init_12 : decode cX3_init 12 = .ok (.anewarray 15, 3) := by decide +kernel
theorem dX3_init_15 : decode cX3_init 15 = .ok (.putfield 17, 3) := by decide +kernel
theorem dX3_init_18 : decode cX3_init 18 = .ok (.aload_n 0, 1) := by decide +kernel
theorem dX3_init_19 : decode cX3_init 19 = .ok (.iconst 0, 1) := by decide +kernel
theorem dX3_init_20 : decode cX3_init 20 = .ok (.putfield 21, 3) := by decide +kernel
theorem dX3_init_23 : decode cX3_init 23 = .ok (.iconst 0, 1) := by decide +kernel
theorem dX3_init_24 : decode cX3_init 24 = .ok (.istore_n 1, 1) := by decide +kernel
theorem dX3_init_25 : decode cX3_init 25 = .ok (.iload_n 1, 1) := by decide +kernel
theorem dX3_init_26 : decode cX3_init 26 = .ok (.aload_n 0, 1) := by decide +kernel
theorem dX3_init_27 : decode cX3_init 27 = .ok (.getfield 17, 3) := by decide +kernel
theorem dX3_init_30 : decode cX3_init 30 = .ok (.arraylength, 1) := by decide +kernel
theorem dX3_init_31 : decode cX3_init 31 = .ok (.if_icmp .ge 22, 3) := by decide +kernel
theorem dX3_init_34 : decode cX3_init 34 = .ok (.aload_n 0, 1) := by decide +kernel
theorem dX3_init_35 : decode cX3_init 35 = .ok (.getfield 17, 3) := by decide +kernel
theorem dX3_init_38 : decode cX3_init 38 = .ok (.iload_n 1, 1) := by decide +kernel
theorem dX3_init_39 : decode cX3_init 39 = .ok (.new 15, 3) := by decide +kernel
theorem dX3_init_42 : decode cX3_init 42 = .ok (.dup, 1) := by decide +kernel
theorem dX3_init_43 : decode cX3_init 43 = .ok (.invokespecial 24, 3) := by decide +kernel
theorem dX3_init_46 : decode cX3_init 46 = .ok (.aastore, 1) := by decide +kernel
theorem dX3_init_47 : decode cX3_init 47 = .ok (.iinc 1 1, 3) := by decide +kernel
theorem dX3_init_50 : decode cX3_init 50 = .ok (.goto (-25), 3) := by decide +kernel
theorem dX3_init_53 : decode cX3_init 53 = .ok (.return_, 1) := by decide +kernel
theorem dX3_clear_0 : decode cX3_clear 0 = .ok (.aload_n 0, 1) := by decide +kernel
theorem dX3_clear_1 : decode cX3_clear 1 = .ok (.iconst 0, 1) := by decide +kernel
theorem dX3_clear_2 : decode cX3_clear 2 = .ok (.putfield 9, 3) := by decide +kernel
theorem dX3_clear_5 : decode cX3_clear 5 = .ok (.return_, 1) := by decide +kernel
theorem dX3_keep_0 : decode cX3_keep 0 = .ok (.aload_n 0, 1) := by decide +kernel
theorem dX3_keep_1 : decode cX3_keep 1 = .ok (.getfield 17, 3) := by decide +kernel
theorem dX3_keep_4 : decode cX3_keep 4 = .ok (.aload_n 0, 1) := by decide +kernel
theorem dX3_keep_5 : decode cX3_keep 5 = .ok (.getfield 21, 3) := by decide +kernel
theorem dX3_keep_8 : decode cX3_keep 8 = .ok (.aaload, 1) := by decide +kernel
theorem dX3_keep_9 : decode cX3_keep 9 = .ok (.aload_n 1, 1) := by decide +kernel
theorem dX3_keep_10 : decode cX3_keep 10 = .ok (.invokevirtual 25, 3) := by decide +kernel
theorem dX3_keep_13 : decode cX3_keep 13 = .ok (.aload_n 0, 1) := by decide +kernel
theorem dX3_keep_14 : decode cX3_keep 14 = .ok (.aload_n 0, 1) := by decide +kernel
theorem dX3_keep_15 : decode cX3_keep 15 = .ok (.getfield 21, 3) := by decide +kernel
theorem dX3_keep_18 : decode cX3_keep 18 = .ok (.iconst 1, 1) := by decide +kernel
theorem dX3_keep_19 : decode cX3_keep 19 = .ok (.iadd, 1) := by decide +kernel
theorem dX3_keep_20 : decode cX3_keep 20 = .ok (.bipush 10, 2) := by decide +kernel
theorem dX3_keep_22 : decode cX3_keep 22 = .ok (.irem, 1) := by decide +kernel
theorem dX3_keep_23 : decode cX3_keep 23 = .ok (.putfield 21, 3) := by decide +kernel
theorem dX3_keep_26 : decode cX3_keep 26 = .ok (.aload_n 0, 1) := by decide +kernel
theorem dX3_keep_27 : decode cX3_keep 27 = .ok (.aload_n 0, 1) := by decide +kernel
theorem dX3_keep_28 : decode cX3_keep 28 = .ok (.getfield 9, 3) := by decide +kernel
theorem dX3_keep_31 : decode cX3_keep 31 = .ok (.iconst 1, 1) := by decide +kernel
theorem dX3_keep_32 : decode cX3_keep 32 = .ok (.iadd, 1) := by decide +kernel
theorem dX3_keep_33 : decode cX3_keep 33 = .ok (.bipush 10, 2) := by decide +kernel
theorem dX3_keep_35 : decode cX3_keep 35 = .ok (.invokestatic 29, 3) := by decide +kernel
theorem dX3_keep_38 : decode cX3_keep 38 = .ok (.putfield 9, 3) := by decide +kernel
theorem dX3_keep_41 : decode cX3_keep 41 = .ok (.return_, 1) := by decide +kernel
theorem dX3_bringBack_0 : decode cX3_bringBack 0 = .ok (.aload_n 0, 1) := by decide +kernel
theorem dX3_bringBack_1 : decode cX3_bringBack 1 = .ok (.getfield 9, 3) := by decide +kernel
theorem dX3_bringBack_4 : decode cX3_bringBack 4 = .ok (.ifCond .le 42, 3) := by decide +kernel
theorem dX3_bringBack_7 : decode cX3_bringBack 7 = .ok (.aload_n 0, 1) := by decide +kernel
theorem dX3_bringBack_8 : decode cX3_bringBack 8 = .ok (.aload_n 0, 1) := by decide +kernel
theorem dX3_bringBack_9 : decode cX3_bringBack 9 = .ok (.getfield 21, 3) := by decide +kernel
theorem dX3_bringBack_12 : decode cX3_bringBack 12 = .ok (.bipush 10, 2) := by decide +kernel
theorem dX3_bringBack_14 : decode cX3_bringBack 14 = .ok (.iadd, 1) := by decide +kernel
theorem dX3_bringBack_15 : decode cX3_bringBack 15 = .ok (.iconst 1, 1) := by decide +kernel
theorem dX3_bringBack_16 : decode cX3_bringBack 16 = .ok (.isub, 1) := by decide +kernel
theorem dX3_bringBack_17 : decode cX3_bringBack 17 = .ok (.bipush 10, 2) := by decide +kernel
theorem dX3_bringBack_19 : decode cX3_bringBack 19 = .ok (.irem, 1) := by decide +kernel
theorem dX3_bringBack_20 : decode cX3_bringBack 20 = .ok (.putfield 21, 3) := by decide +kernel
theorem dX3_bringBack_23 : decode cX3_bringBack 23 = .ok (.aload_n 1, 1) := by decide +kernel
theorem dX3_bringBack_24 : decode cX3_bringBack 24 = .ok (.aload_n 0, 1) := by decide +kernel
theorem dX3_bringBack_25 : decode cX3_bringBack 25 = .ok (.getfield 17, 3) := by decide +kernel
theorem dX3_bringBack_28 : decode cX3_bringBack 28 = .ok (.aload_n 0, 1) := by decide +kernel
theorem dX3_bringBack_29 : decode cX3_bringBack 29 = .ok (.getfield 21, 3) := by decide +kernel
theorem dX3_bringBack_32 : decode cX3_bringBack 32 = .ok (.aaload, 1) := by decide +kernel
theorem dX3_bringBack_33 : decode cX3_bringBack 33 = .ok (.invokevirtual 25, 3) := by decide +kernel
theorem dX3_bringBack_36 : decode cX3_bringBack 36 = .ok (.aload_n 0, 1) := by decide +kernel
theorem dX3_bringBack_37 : decode cX3_bringBack 37 = .ok (.dup, 1) := by decide +kernel
theorem dX3_bringBack_38 : decode cX3_bringBack 38 = .ok (.getfield 9, 3) := by decide +kernel
theorem dX3_bringBack_41 : decode cX3_bringBack 41 = .ok (.iconst 1, 1) := by decide +kernel
theorem dX3_bringBack_42 : decode cX3_bringBack 42 = .ok (.isub, 1) := by decide +kernel
theorem dX3_bringBack_43 : decode cX3_bringBack 43 = .ok (.putfield 9, 3) := by decide +kernel
theorem dX3_bringBack_46 : decode cX3_bringBack 46 = .ok (.return_, 1) := by decide +kernel
theorem dX4_init_0 : decode cX4_init 0 = .ok (.aload_n 0, 1) := by decide +kernel
theorem dX4_init_1 : decode cX4_init 1 = .ok (.invokespecial 3, 3) := by decide +kernel
theorem dX4_init_4 : decode cX4_init 4 = .ok (.aload_n 0, 1) := by decide +kernel
theorem dX4_init_5 : decode cX4_init 5 = .ok (.sipush 900, 3) := by decide +kernel
theorem dX4_init_8 : decode cX4_init 8 = .ok (.newarray .int, 2) := by decide +kernel
theorem dX4_init_10 : decode cX4_init 10 = .ok (.putfield 9, 3) := by decide +kernel
theorem dX4_init_13 : decode cX4_init 13 = .ok (.aload_n 0, 1) := by decide +kernel
theorem dX4_init_14 : decode cX4_init 14 = .ok (.iconst 0, 1) := by decide +kernel
theorem dX4_init_15 : decode cX4_init 15 = .ok (.putfield 15, 3) := by decide +kernel
theorem dX4_init_18 : decode cX4_init 18 = .ok (.aload_n 0, 1) := by decide +kernel
theorem dX4_init_19 : decode cX4_init 19 = .ok (.iconst 0, 1) := by decide +kernel
theorem dX4_init_20 : decode cX4_init 20 = .ok (.putfield 19, 3) := by decide +kernel
theorem dX4_init_23 : decode cX4_init 23 = .ok (.return_, 1) := by decide +kernel
theorem dX4_clear_0 : decode cX4_clear 0 = .ok (.aload_n 0, 1) := by decide +kernel
theorem dX4_clear_1 : decode cX4_clear 1 = .ok (.iconst 0, 1) := by decide +kernel
theorem dX4_clear_2 : decode cX4_clear 2 = .ok (.putfield 15, 3) := by decide +kernel
theorem dX4_clear_5 : decode cX4_clear 5 = .ok (.aload_n 0, 1) := by decide +kernel
theorem dX4_clear_6 : decode cX4_clear 6 = .ok (.iconst 0, 1) := by decide +kernel
theorem dX4_clear_7 : decode cX4_clear 7 = .ok (.putfield 19, 3) := by decide +kernel
theorem dX4_clear_10 : decode cX4_clear 10 = .ok (.return_, 1) := by decide +kernel
theorem dX4_isTold_0 : decode cX4_isTold 0 = .ok (.aload_n 0, 1) := by decide +kernel
theorem dX4_isTold_1 : decode cX4_isTold 1 = .ok (.getfield 15, 3) := by decide +kernel
theorem dX4_isTold_4 : decode cX4_isTold 4 = .ok (.ifCond .le 7, 3) := by decide +kernel
theorem dX4_isTold_7 : decode cX4_isTold 7 = .ok (.iconst 1, 1) := by decide +kernel
theorem dX4_isTold_8 : decode cX4_isTold 8 = .ok (.goto 4, 3) := by decide +kernel
theorem dX4_isTold_11 : decode cX4_isTold 11 = .ok (.iconst 0, 1) := by decide +kernel
theorem dX4_isTold_12 : decode cX4_isTold 12 = .ok (.ireturn, 1) := by decide +kernel
theorem dX4_asksFor_0 : decode cX4_asksFor 0 = .ok (.aload_n 0, 1) := by decide +kernel
theorem dX4_asksFor_1 : decode cX4_asksFor 1 = .ok (.getfield 19, 3) := by decide +kernel
theorem dX4_asksFor_4 : decode cX4_asksFor 4 = .ok (.iload_n 1, 1) := by decide +kernel
theorem dX4_asksFor_5 : decode cX4_asksFor 5 = .ok (.ishr, 1) := by decide +kernel
theorem dX4_asksFor_6 : decode cX4_asksFor 6 = .ok (.iconst 1, 1) := by decide +kernel
theorem dX4_asksFor_7 : decode cX4_asksFor 7 = .ok (.iand, 1) := by decide +kernel
theorem dX4_asksFor_8 : decode cX4_asksFor 8 = .ok (.ifCond .eq 7, 3) := by decide +kernel
theorem dX4_asksFor_11 : decode cX4_asksFor 11 = .ok (.iconst 1, 1) := by decide +kernel
theorem dX4_asksFor_12 : decode cX4_asksFor 12 = .ok (.goto 4, 3) := by decide +kernel
theorem dX4_asksFor_15 : decode cX4_asksFor 15 = .ok (.iconst 0, 1) := by decide +kernel
theorem dX4_asksFor_16 : decode cX4_asksFor 16 = .ok (.ireturn, 1) := by decide +kernel
theorem dX4_add_0 : decode cX4_add 0 = .ok (.aload_n 0, 1) := by decide +kernel
theorem dX4_add_1 : decode cX4_add 1 = .ok (.getfield 15, 3) := by decide +kernel
theorem dX4_add_4 : decode cX4_add 4 = .ok (.aload_n 0, 1) := by decide +kernel
theorem dX4_add_5 : decode cX4_add 5 = .ok (.getfield 9, 3) := by decide +kernel
theorem dX4_add_8 : decode cX4_add 8 = .ok (.arraylength, 1) := by decide +kernel
theorem dX4_add_9 : decode cX4_add 9 = .ok (.if_icmp .ge 23, 3) := by decide +kernel
theorem dX4_add_12 : decode cX4_add 12 = .ok (.aload_n 0, 1) := by decide +kernel
theorem dX4_add_13 : decode cX4_add 13 = .ok (.getfield 9, 3) := by decide +kernel
theorem dX4_add_16 : decode cX4_add 16 = .ok (.aload_n 0, 1) := by decide +kernel
theorem dX4_add_17 : decode cX4_add 17 = .ok (.getfield 15, 3) := by decide +kernel
theorem dX4_add_20 : decode cX4_add 20 = .ok (.iload_n 1, 1) := by decide +kernel
theorem dX4_add_21 : decode cX4_add 21 = .ok (.iastore, 1) := by decide +kernel
theorem dX4_add_22 : decode cX4_add 22 = .ok (.aload_n 0, 1) := by decide +kernel
theorem dX4_add_23 : decode cX4_add 23 = .ok (.dup, 1) := by decide +kernel
theorem dX4_add_24 : decode cX4_add 24 = .ok (.getfield 15, 3) := by decide +kernel
theorem dX4_add_27 : decode cX4_add 27 = .ok (.iconst 1, 1) := by decide +kernel
theorem dX4_add_28 : decode cX4_add 28 = .ok (.iadd, 1) := by decide +kernel
theorem dX4_add_29 : decode cX4_add 29 = .ok (.putfield 15, 3) := by decide +kernel
theorem dX4_add_32 : decode cX4_add 32 = .ok (.iload_n 1, 1) := by decide +kernel
theorem dX4_add_33 : decode cX4_add 33 = .ok (.sipush 1000, 3) := by decide +kernel
theorem dX4_add_36 : decode cX4_add 36 = .ok (.if_icmp .lt 26, 3) := by decide +kernel
theorem dX4_add_39 : decode cX4_add 39 = .ok (.iload_n 1, 1) := by decide +kernel
theorem dX4_add_40 : decode cX4_add 40 = .ok (.sipush 2000, 3) := by decide +kernel
theorem dX4_add_43 : decode cX4_add 43 = .ok (.if_icmp .ge 19, 3) := by decide +kernel
theorem dX4_add_46 : decode cX4_add 46 = .ok (.aload_n 0, 1) := by decide +kernel
theorem dX4_add_47 : decode cX4_add 47 = .ok (.dup, 1) := by decide +kernel
theorem dX4_add_48 : decode cX4_add 48 = .ok (.getfield 19, 3) := by decide +kernel
theorem dX4_add_51 : decode cX4_add 51 = .ok (.iconst 1, 1) := by decide +kernel
theorem dX4_add_52 : decode cX4_add 52 = .ok (.iload_n 1, 1) := by decide +kernel
theorem dX4_add_53 : decode cX4_add 53 = .ok (.sipush 1000, 3) := by decide +kernel
theorem dX4_add_56 : decode cX4_add 56 = .ok (.isub, 1) := by decide +kernel
theorem dX4_add_57 : decode cX4_add 57 = .ok (.ishl, 1) := by decide +kernel
theorem dX4_add_58 : decode cX4_add 58 = .ok (.ior, 1) := by decide +kernel
theorem dX4_add_59 : decode cX4_add 59 = .ok (.putfield 19, 3) := by decide +kernel
theorem dX4_add_62 : decode cX4_add 62 = .ok (.return_, 1) := by decide +kernel
theorem dX4_valueOf_0 : decode cX4_valueOf 0 = .ok (.iconst 0, 1) := by decide +kernel
theorem dX4_valueOf_1 : decode cX4_valueOf 1 = .ok (.istore_n 3, 1) := by decide +kernel
theorem dX4_valueOf_2 : decode cX4_valueOf 2 = .ok (.iconst 0, 1) := by decide +kernel
theorem dX4_valueOf_3 : decode cX4_valueOf 3 = .ok (.istore 4, 2) := by decide +kernel
theorem dX4_valueOf_5 : decode cX4_valueOf 5 = .ok (.iload 4, 2) := by decide +kernel
theorem dX4_valueOf_7 : decode cX4_valueOf 7 = .ok (.aload_n 0, 1) := by decide +kernel
theorem dX4_valueOf_8 : decode cX4_valueOf 8 = .ok (.getfield 15, 3) := by decide +kernel
theorem dX4_valueOf_11 : decode cX4_valueOf 11 = .ok (.if_icmp .ge 134, 3) := by decide +kernel
theorem dX4_valueOf_14 : decode cX4_valueOf 14 = .ok (.aload_n 0, 1) := by decide +kernel
theorem dX4_valueOf_15 : decode cX4_valueOf 15 = .ok (.getfield 9, 3) := by decide +kernel
theorem dX4_valueOf_18 : decode cX4_valueOf 18 = .ok (.iload 4, 2) := by decide +kernel
theorem dX4_valueOf_20 : decode cX4_valueOf 20 = .ok (.iaload, 1) := by decide +kernel
theorem dX4_valueOf_21 : decode cX4_valueOf 21 = .ok (.istore 5, 2) := by decide +kernel
theorem dX4_valueOf_23 : decode cX4_valueOf 23 = .ok (.iload 5, 2) := by decide +kernel
theorem dX4_valueOf_25 : decode cX4_valueOf 25 = .ok (.sipush 2000, 3) := by decide +kernel
theorem dX4_valueOf_28 : decode cX4_valueOf 28 = .ok (.if_icmp .ge 49, 3) := by decide +kernel
theorem dX4_valueOf_31 : decode cX4_valueOf 31 = .ok (.iload 5, 2) := by decide +kernel
theorem dX4_valueOf_33 : decode cX4_valueOf 33 = .ok (.sipush 1000, 3) := by decide +kernel
theorem dX4_valueOf_36 : decode cX4_valueOf 36 = .ok (.isub, 1) := by decide +kernel
theorem dX4_valueOf_37 : decode cX4_valueOf 37 = .ok (.istore 6, 2) := by decide +kernel
theorem dX4_valueOf_39 : decode cX4_valueOf 39 = .ok (.iload_n 3, 1) := by decide +kernel
theorem dX4_valueOf_40 : decode cX4_valueOf 40 = .ok (.aload_n 2, 1) := by decide +kernel
theorem dX4_valueOf_41 : decode cX4_valueOf 41 = .ok (.arraylength, 1) := by decide +kernel
theorem dX4_valueOf_42 : decode cX4_valueOf 42 = .ok (.if_icmp .ge 10, 3) := by decide +kernel
theorem dX4_valueOf_45 : decode cX4_valueOf 45 = .ok (.iload 6, 2) := by decide +kernel
theorem dX4_valueOf_47 : decode cX4_valueOf 47 = .ok (.aload_n 1, 1) := by decide +kernel
theorem dX4_valueOf_48 : decode cX4_valueOf 48 = .ok (.arraylength, 1) := by decide +kernel
theorem dX4_valueOf_49 : decode cX4_valueOf 49 = .ok (.if_icmp .lt 5, 3) := by decide +kernel
theorem dX4_valueOf_52 : decode cX4_valueOf 52 = .ok (.iconst 0, 1) := by decide +kernel
theorem dX4_valueOf_53 : decode cX4_valueOf 53 = .ok (.ireturn, 1) := by decide +kernel
theorem dX4_valueOf_54 : decode cX4_valueOf 54 = .ok (.aload_n 2, 1) := by decide +kernel
theorem dX4_valueOf_55 : decode cX4_valueOf 55 = .ok (.iload_n 3, 1) := by decide +kernel
theorem dX4_valueOf_56 : decode cX4_valueOf 56 = .ok (.iload 6, 2) := by decide +kernel
theorem dX4_valueOf_58 : decode cX4_valueOf 58 = .ok (.ifCond .ge 8, 3) := by decide +kernel
theorem dX4_valueOf_61 : decode cX4_valueOf 61 = .ok (.iload 5, 2) := by decide +kernel
theorem dX4_valueOf_63 : decode cX4_valueOf 63 = .ok (.goto 7, 3) := by decide +kernel
theorem dX4_valueOf_66 : decode cX4_valueOf 66 = .ok (.aload_n 1, 1) := by decide +kernel
theorem dX4_valueOf_67 : decode cX4_valueOf 67 = .ok (.iload 6, 2) := by decide +kernel
theorem dX4_valueOf_69 : decode cX4_valueOf 69 = .ok (.iaload, 1) := by decide +kernel
theorem dX4_valueOf_70 : decode cX4_valueOf 70 = .ok (.iastore, 1) := by decide +kernel
theorem dX4_valueOf_71 : decode cX4_valueOf 71 = .ok (.iinc 3 1, 3) := by decide +kernel
theorem dX4_valueOf_74 : decode cX4_valueOf 74 = .ok (.goto 65, 3) := by decide +kernel
theorem dX4_valueOf_77 : decode cX4_valueOf 77 = .ok (.iload 5, 2) := by decide +kernel
theorem dX4_valueOf_79 : decode cX4_valueOf 79 = .ok (.sipush 2219, 3) := by decide +kernel
theorem dX4_valueOf_82 : decode cX4_valueOf 82 = .ok (.if_icmp .ne 25, 3) := by decide +kernel
theorem dX4_valueOf_85 : decode cX4_valueOf 85 = .ok (.iload_n 3, 1) := by decide +kernel
theorem dX4_valueOf_86 : decode cX4_valueOf 86 = .ok (.iconst 1, 1) := by decide +kernel
theorem dX4_valueOf_87 : decode cX4_valueOf 87 = .ok (.if_icmp .ge 5, 3) := by decide +kernel
theorem dX4_valueOf_90 : decode cX4_valueOf 90 = .ok (.iconst 0, 1) := by decide +kernel
theorem dX4_valueOf_91 : decode cX4_valueOf 91 = .ok (.ireturn, 1) := by decide +kernel
theorem dX4_valueOf_92 : decode cX4_valueOf 92 = .ok (.aload_n 2, 1) := by decide +kernel
theorem dX4_valueOf_93 : decode cX4_valueOf 93 = .ok (.iload_n 3, 1) := by decide +kernel
theorem dX4_valueOf_94 : decode cX4_valueOf 94 = .ok (.iconst 1, 1) := by decide +kernel
theorem dX4_valueOf_95 : decode cX4_valueOf 95 = .ok (.isub, 1) := by decide +kernel
theorem dX4_valueOf_96 : decode cX4_valueOf 96 = .ok (.iconst 1, 1) := by decide +kernel
theorem dX4_valueOf_97 : decode cX4_valueOf 97 = .ok (.aload_n 2, 1) := by decide +kernel
theorem dX4_valueOf_98 : decode cX4_valueOf 98 = .ok (.iload_n 3, 1) := by decide +kernel
theorem dX4_valueOf_99 : decode cX4_valueOf 99 = .ok (.iconst 1, 1) := by decide +kernel
theorem dX4_valueOf_100 : decode cX4_valueOf 100 = .ok (.isub, 1) := by decide +kernel
theorem dX4_valueOf_101 : decode cX4_valueOf 101 = .ok (.iaload, 1) := by decide +kernel
theorem dX4_valueOf_102 : decode cX4_valueOf 102 = .ok (.isub, 1) := by decide +kernel
theorem dX4_valueOf_103 : decode cX4_valueOf 103 = .ok (.iastore, 1) := by decide +kernel
theorem dX4_valueOf_104 : decode cX4_valueOf 104 = .ok (.goto 35, 3) := by decide +kernel
theorem dX4_valueOf_107 : decode cX4_valueOf 107 = .ok (.iload_n 3, 1) := by decide +kernel
theorem dX4_valueOf_108 : decode cX4_valueOf 108 = .ok (.iconst 2, 1) := by decide +kernel
theorem dX4_valueOf_109 : decode cX4_valueOf 109 = .ok (.if_icmp .ge 5, 3) := by decide +kernel
theorem dX4_valueOf_112 : decode cX4_valueOf 112 = .ok (.iconst 0, 1) := by decide +kernel
theorem dX4_valueOf_113 : decode cX4_valueOf 113 = .ok (.ireturn, 1) := by decide +kernel
theorem dX4_valueOf_114 : decode cX4_valueOf 114 = .ok (.iinc 3 (-1), 3) := by decide +kernel
theorem dX4_valueOf_117 : decode cX4_valueOf 117 = .ok (.aload_n 2, 1) := by decide +kernel
theorem dX4_valueOf_118 : decode cX4_valueOf 118 = .ok (.iload_n 3, 1) := by decide +kernel
theorem dX4_valueOf_119 : decode cX4_valueOf 119 = .ok (.iconst 1, 1) := by decide +kernel
theorem dX4_valueOf_120 : decode cX4_valueOf 120 = .ok (.isub, 1) := by decide +kernel
theorem dX4_valueOf_121 : decode cX4_valueOf 121 = .ok (.iload 5, 2) := by decide +kernel
theorem dX4_valueOf_123 : decode cX4_valueOf 123 = .ok (.sipush 2000, 3) := by decide +kernel
theorem dX4_valueOf_126 : decode cX4_valueOf 126 = .ok (.isub, 1) := by decide +kernel
theorem dX4_valueOf_127 : decode cX4_valueOf 127 = .ok (.aload_n 2, 1) := by decide +kernel
theorem dX4_valueOf_128 : decode cX4_valueOf 128 = .ok (.iload_n 3, 1) := by decide +kernel
theorem dX4_valueOf_129 : decode cX4_valueOf 129 = .ok (.iconst 1, 1) := by decide +kernel
theorem dX4_valueOf_130 : decode cX4_valueOf 130 = .ok (.isub, 1) := by decide +kernel
theorem dX4_valueOf_131 : decode cX4_valueOf 131 = .ok (.iaload, 1) := by decide +kernel
theorem dX4_valueOf_132 : decode cX4_valueOf 132 = .ok (.aload_n 2, 1) := by decide +kernel
theorem dX4_valueOf_133 : decode cX4_valueOf 133 = .ok (.iload_n 3, 1) := by decide +kernel
theorem dX4_valueOf_134 : decode cX4_valueOf 134 = .ok (.iaload, 1) := by decide +kernel
theorem dX4_valueOf_135 : decode cX4_valueOf 135 = .ok (.invokestatic 24, 3) := by decide +kernel
theorem dX4_valueOf_138 : decode cX4_valueOf 138 = .ok (.iastore, 1) := by decide +kernel
theorem dX4_valueOf_139 : decode cX4_valueOf 139 = .ok (.iinc 4 1, 3) := by decide +kernel
theorem dX4_valueOf_142 : decode cX4_valueOf 142 = .ok (.goto (-137), 3) := by decide +kernel
theorem dX4_valueOf_145 : decode cX4_valueOf 145 = .ok (.iload_n 3, 1) := by decide +kernel
theorem dX4_valueOf_146 : decode cX4_valueOf 146 = .ok (.iconst 1, 1) := by decide +kernel
theorem dX4_valueOf_147 : decode cX4_valueOf 147 = .ok (.if_icmp .ne 9, 3) := by decide +kernel
theorem dX4_valueOf_150 : decode cX4_valueOf 150 = .ok (.aload_n 2, 1) := by decide +kernel
theorem dX4_valueOf_151 : decode cX4_valueOf 151 = .ok (.iconst 0, 1) := by decide +kernel
theorem dX4_valueOf_152 : decode cX4_valueOf 152 = .ok (.iaload, 1) := by decide +kernel
theorem dX4_valueOf_153 : decode cX4_valueOf 153 = .ok (.goto 4, 3) := by decide +kernel
theorem dX4_valueOf_156 : decode cX4_valueOf 156 = .ok (.iconst 0, 1) := by decide +kernel
theorem dX4_valueOf_157 : decode cX4_valueOf 157 = .ok (.ireturn, 1) := by decide +kernel
theorem dX4_joined_0 : decode cX4_joined 0 = .ok (.iload_n 0, 1) := by decide +kernel
theorem dX4_joined_1 : decode cX4_joined 1 = .ok (.lookupswitch 131 #[(42, 85), (43, 67), (45, 76), (60, 105), (61, 94), (62, 116), (218, 127)], 67) := by decide +kernel
theorem dX4_joined_68 : decode cX4_joined 68 = .ok (.iload_n 1, 1) := by decide +kernel
theorem dX4_joined_69 : decode cX4_joined 69 = .ok (.i2l, 1) := by decide +kernel
theorem dX4_joined_70 : decode cX4_joined 70 = .ok (.iload_n 2, 1) := by decide +kernel
theorem dX4_joined_71 : decode cX4_joined 71 = .ok (.i2l, 1) := by decide +kernel
theorem dX4_joined_72 : decode cX4_joined 72 = .ok (.ladd, 1) := by decide +kernel
theorem dX4_joined_73 : decode cX4_joined 73 = .ok (.lstore_n 3, 1) := by decide +kernel
theorem dX4_joined_74 : decode cX4_joined 74 = .ok (.goto 62, 3) := by decide +kernel
theorem dX4_joined_77 : decode cX4_joined 77 = .ok (.iload_n 1, 1) := by decide +kernel
theorem dX4_joined_78 : decode cX4_joined 78 = .ok (.i2l, 1) := by decide +kernel
theorem dX4_joined_79 : decode cX4_joined 79 = .ok (.iload_n 2, 1) := by decide +kernel
theorem dX4_joined_80 : decode cX4_joined 80 = .ok (.i2l, 1) := by decide +kernel
theorem dX4_joined_81 : decode cX4_joined 81 = .ok (.lsub, 1) := by decide +kernel
theorem dX4_joined_82 : decode cX4_joined 82 = .ok (.lstore_n 3, 1) := by decide +kernel
theorem dX4_joined_83 : decode cX4_joined 83 = .ok (.goto 53, 3) := by decide +kernel
theorem dX4_joined_86 : decode cX4_joined 86 = .ok (.iload_n 1, 1) := by decide +kernel
theorem dX4_joined_87 : decode cX4_joined 87 = .ok (.i2l, 1) := by decide +kernel
theorem dX4_joined_88 : decode cX4_joined 88 = .ok (.iload_n 2, 1) := by decide +kernel
theorem dX4_joined_89 : decode cX4_joined 89 = .ok (.i2l, 1) := by decide +kernel
theorem dX4_joined_90 : decode cX4_joined 90 = .ok (.lmul, 1) := by decide +kernel
theorem dX4_joined_91 : decode cX4_joined 91 = .ok (.lstore_n 3, 1) := by decide +kernel
theorem dX4_joined_92 : decode cX4_joined 92 = .ok (.goto 44, 3) := by decide +kernel
theorem dX4_joined_95 : decode cX4_joined 95 = .ok (.iload_n 1, 1) := by decide +kernel
theorem dX4_joined_96 : decode cX4_joined 96 = .ok (.iload_n 2, 1) := by decide +kernel
theorem dX4_joined_97 : decode cX4_joined 97 = .ok (.if_icmp .ne 7, 3) := by decide +kernel
theorem dX4_joined_100 : decode cX4_joined 100 = .ok (.iconst 1, 1) := by decide +kernel
theorem dX4_joined_101 : decode cX4_joined 101 = .ok (.goto 4, 3) := by decide +kernel
theorem dX4_joined_104 : decode cX4_joined 104 = .ok (.iconst 0, 1) := by decide +kernel
theorem dX4_joined_105 : decode cX4_joined 105 = .ok (.ireturn, 1) := by decide +kernel
theorem dX4_joined_106 : decode cX4_joined 106 = .ok (.iload_n 1, 1) := by decide +kernel
theorem dX4_joined_107 : decode cX4_joined 107 = .ok (.iload_n 2, 1) := by decide +kernel
theorem dX4_joined_108 : decode cX4_joined 108 = .ok (.if_icmp .ge 7, 3) := by decide +kernel
theorem dX4_joined_111 : decode cX4_joined 111 = .ok (.iconst 1, 1) := by decide +kernel
theorem dX4_joined_112 : decode cX4_joined 112 = .ok (.goto 4, 3) := by decide +kernel
theorem dX4_joined_115 : decode cX4_joined 115 = .ok (.iconst 0, 1) := by decide +kernel
theorem dX4_joined_116 : decode cX4_joined 116 = .ok (.ireturn, 1) := by decide +kernel
theorem dX4_joined_117 : decode cX4_joined 117 = .ok (.iload_n 1, 1) := by decide +kernel
theorem dX4_joined_118 : decode cX4_joined 118 = .ok (.iload_n 2, 1) := by decide +kernel
theorem dX4_joined_119 : decode cX4_joined 119 = .ok (.if_icmp .le 7, 3) := by decide +kernel
theorem dX4_joined_122 : decode cX4_joined 122 = .ok (.iconst 1, 1) := by decide +kernel
theorem dX4_joined_123 : decode cX4_joined 123 = .ok (.goto 4, 3) := by decide +kernel
theorem dX4_joined_126 : decode cX4_joined 126 = .ok (.iconst 0, 1) := by decide +kernel
theorem dX4_joined_127 : decode cX4_joined 127 = .ok (.ireturn, 1) := by decide +kernel
theorem dX4_joined_128 : decode cX4_joined 128 = .ok (.iload_n 1, 1) := by decide +kernel
theorem dX4_joined_129 : decode cX4_joined 129 = .ok (.iload_n 2, 1) := by decide +kernel
theorem dX4_joined_130 : decode cX4_joined 130 = .ok (.iand, 1) := by decide +kernel
theorem dX4_joined_131 : decode cX4_joined 131 = .ok (.ireturn, 1) := by decide +kernel
theorem dX4_joined_132 : decode cX4_joined 132 = .ok (.iload_n 1, 1) := by decide +kernel
theorem dX4_joined_133 : decode cX4_joined 133 = .ok (.iload_n 2, 1) := by decide +kernel
theorem dX4_joined_134 : decode cX4_joined 134 = .ok (.ior, 1) := by decide +kernel
theorem dX4_joined_135 : decode cX4_joined 135 = .ok (.ireturn, 1) := by decide +kernel
theorem dX4_joined_136 : decode cX4_joined 136 = .ok (.lload_n 3, 1) := by decide +kernel
theorem dX4_joined_137 : decode cX4_joined 137 = .ok (.ldc2_w 28, 3) := by decide +kernel
theorem dX4_joined_140 : decode cX4_joined 140 = .ok (.lcmp, 1) := by decide +kernel
theorem dX4_joined_141 : decode cX4_joined 141 = .ok (.ifCond .le 6, 3) := by decide +kernel
theorem dX4_joined_144 : decode cX4_joined 144 = .ok (.ldc 30, 2) := by decide +kernel
theorem dX4_joined_146 : decode cX4_joined 146 = .ok (.ireturn, 1) := by decide +kernel
theorem dX4_joined_147 : decode cX4_joined 147 = .ok (.lload_n 3, 1) := by decide +kernel
theorem dX4_joined_148 : decode cX4_joined 148 = .ok (.ldc2_w 31, 3) := by decide +kernel
theorem dX4_joined_151 : decode cX4_joined 151 = .ok (.lcmp, 1) := by decide +kernel
theorem dX4_joined_152 : decode cX4_joined 152 = .ok (.ifCond .ge 8, 3) := by decide +kernel
theorem dX4_joined_155 : decode cX4_joined 155 = .ok (.ldc 33, 2) := by decide +kernel
theorem dX4_joined_157 : decode cX4_joined 157 = .ok (.goto 5, 3) := by decide +kernel
theorem dX4_joined_160 : decode cX4_joined 160 = .ok (.lload_n 3, 1) := by decide +kernel
theorem dX4_joined_161 : decode cX4_joined 161 = .ok (.l2i, 1) := by decide +kernel
theorem dX4_joined_162 : decode cX4_joined 162 = .ok (.ireturn, 1) := by decide +kernel
theorem dX5_init_0 : decode cX5_init 0 = .ok (.aload_n 0, 1) := by decide +kernel
theorem dX5_init_1 : decode cX5_init 1 = .ok (.invokespecial 3, 3) := by decide +kernel
theorem dX5_init_4 : decode cX5_init 4 = .ok (.aload_n 0, 1) := by decide +kernel
theorem dX5_init_5 : decode cX5_init 5 = .ok (.ldc 9, 2) := by decide +kernel
theorem dX5_init_7 : decode cX5_init 7 = .ok (.putfield 10, 3) := by decide +kernel
theorem dX5_init_10 : decode cX5_init 10 = .ok (.aload_n 0, 1) := by decide +kernel
theorem dX5_init_11 : decode cX5_init 11 = .ok (.bipush 16, 2) := by decide +kernel
theorem dX5_init_13 : decode cX5_init 13 = .ok (.bipush 41, 2) := by decide +kernel
theorem dX5_init_15 : decode cX5_init 15 = .ok (.multianewarray 16 2, 4) := by decide +kernel
theorem dX5_init_19 : decode cX5_init 19 = .ok (.putfield 18, 3) := by decide +kernel
theorem dX5_init_22 : decode cX5_init 22 = .ok (.aload_n 0, 1) := by decide +kernel
theorem dX5_init_23 : decode cX5_init 23 = .ok (.bipush 41, 2) := by decide +kernel
theorem dX5_init_25 : decode cX5_init 25 = .ok (.newarray .int, 2) := by decide +kernel
theorem dX5_init_27 : decode cX5_init 27 = .ok (.putfield 21, 3) := by decide +kernel
theorem dX5_init_30 : decode cX5_init 30 = .ok (.aload_n 0, 1) := by decide +kernel
theorem dX5_init_31 : decode cX5_init 31 = .ok (.iconst 4, 1) := by decide +kernel
theorem dX5_init_32 : decode cX5_init 32 = .ok (.newarray .int, 2) := by decide +kernel
theorem dX5_init_34 : decode cX5_init 34 = .ok (.putfield 25, 3) := by decide +kernel
theorem dX5_init_37 : decode cX5_init 37 = .ok (.aload_n 0, 1) := by decide +kernel
theorem dX5_init_38 : decode cX5_init 38 = .ok (.iconst 4, 1) := by decide +kernel
theorem dX5_init_39 : decode cX5_init 39 = .ok (.newarray .int, 2) := by decide +kernel
theorem dX5_init_41 : decode cX5_init 41 = .ok (.putfield 28, 3) := by decide +kernel
theorem dX5_init_44 : decode cX5_init 44 = .ok (.aload_n 0, 1) := by decide +kernel
theorem dX5_init_45 : decode cX5_init 45 = .ok (.iconst 0, 1) := by decide +kernel
theorem dX5_init_46 : decode cX5_init 46 = .ok (.putfield 31, 3) := by decide +kernel
theorem dX5_init_49 : decode cX5_init 49 = .ok (.aload_n 0, 1) := by decide +kernel
theorem dX5_init_50 : decode cX5_init 50 = .ok (.iconst 0, 1) := by decide +kernel
theorem dX5_init_51 : decode cX5_init 51 = .ok (.putfield 34, 3) := by decide +kernel
theorem dX5_init_54 : decode cX5_init 54 = .ok (.aload_n 0, 1) := by decide +kernel
theorem dX5_init_55 : decode cX5_init 55 = .ok (.aload_n 1, 1) := by decide +kernel
theorem dX5_init_56 : decode cX5_init 56 = .ok (.putfield 37, 3) := by decide +kernel
theorem dX5_init_59 : decode cX5_init 59 = .ok (.aload_n 0, 1) := by decide +kernel
theorem dX5_init_60 : decode cX5_init 60 = .ok (.aload_n 2, 1) := by decide +kernel
theorem dX5_init_61 : decode cX5_init 61 = .ok (.putfield 41, 3) := by decide +kernel
theorem dX5_init_64 : decode cX5_init 64 = .ok (.return_, 1) := by decide +kernel
theorem dX5_begin_0 : decode cX5_begin 0 = .ok (.aload_n 0, 1) := by decide +kernel
theorem dX5_begin_1 : decode cX5_begin 1 = .ok (.iload_n 1, 1) := by decide +kernel
theorem dX5_begin_2 : decode cX5_begin 2 = .ok (.putfield 31, 3) := by decide +kernel
theorem dX5_begin_5 : decode cX5_begin 5 = .ok (.aload_n 0, 1) := by decide +kernel
theorem dX5_begin_6 : decode cX5_begin 6 = .ok (.aload_n 2, 1) := by decide +kernel
theorem dX5_begin_7 : decode cX5_begin 7 = .ok (.getfield 45, 3) := by decide +kernel
theorem dX5_begin_10 : decode cX5_begin 10 = .ok (.iload_n 1, 1) := by decide +kernel
theorem dX5_begin_11 : decode cX5_begin 11 = .ok (.iaload, 1) := by decide +kernel
theorem dX5_begin_12 : decode cX5_begin 12 = .ok (.putfield 34, 3) := by decide +kernel
theorem dX5_begin_15 : decode cX5_begin 15 = .ok (.aload_n 0, 1) := by decide +kernel
theorem dX5_begin_16 : decode cX5_begin 16 = .ok (.getfield 18, 3) := by decide +kernel
theorem dX5_begin_19 : decode cX5_begin 19 = .ok (.iconst 0, 1) := by decide +kernel
theorem dX5_begin_20 : decode cX5_begin 20 = .ok (.aaload, 1) := by decide +kernel
theorem dX5_begin_21 : decode cX5_begin 21 = .ok (.ldc 9, 2) := by decide +kernel
theorem dX5_begin_23 : decode cX5_begin 23 = .ok (.invokestatic 50, 3) := by decide +kernel
theorem dX5_begin_26 : decode cX5_begin 26 = .ok (.aload_n 0, 1) := by decide +kernel
theorem dX5_begin_27 : decode cX5_begin 27 = .ok (.getfield 18, 3) := by decide +kernel
theorem dX5_begin_30 : decode cX5_begin 30 = .ok (.iconst 0, 1) := by decide +kernel
theorem dX5_begin_31 : decode cX5_begin 31 = .ok (.aaload, 1) := by decide +kernel
theorem dX5_begin_32 : decode cX5_begin 32 = .ok (.aload_n 2, 1) := by decide +kernel
theorem dX5_begin_33 : decode cX5_begin 33 = .ok (.getfield 56, 3) := by decide +kernel
theorem dX5_begin_36 : decode cX5_begin 36 = .ok (.iload_n 1, 1) := by decide +kernel
theorem dX5_begin_37 : decode cX5_begin 37 = .ok (.iaload, 1) := by decide +kernel
theorem dX5_begin_38 : decode cX5_begin 38 = .ok (.bipush 20, 2) := by decide +kernel
theorem dX5_begin_40 : decode cX5_begin 40 = .ok (.iadd, 1) := by decide +kernel
theorem dX5_begin_41 : decode cX5_begin 41 = .ok (.iconst 0, 1) := by decide +kernel
theorem dX5_begin_42 : decode cX5_begin 42 = .ok (.iastore, 1) := by decide +kernel
theorem dX5_begin_43 : decode cX5_begin 43 = .ok (.return_, 1) := by decide +kernel
theorem dX5_find_0 : decode cX5_find 0 = .ok (.aload_n 0, 1) := by decide +kernel
theorem dX5_find_1 : decode cX5_find 1 = .ok (.iload_n 1, 1) := by decide +kernel
theorem dX5_find_2 : decode cX5_find 2 = .ok (.aload_n 2, 1) := by decide +kernel
theorem dX5_find_3 : decode cX5_find 3 = .ok (.invokevirtual 59, 3) := by decide +kernel
theorem dX5_find_6 : decode cX5_find 6 = .ok (.aload_n 0, 1) := by decide +kernel
theorem dX5_find_7 : decode cX5_find 7 = .ok (.ldc 9, 2) := by decide +kernel
theorem dX5_find_9 : decode cX5_find 9 = .ok (.putfield 10, 3) := by decide +kernel
theorem dX5_find_12 : decode cX5_find 12 = .ok (.aload_n 0, 1) := by decide +kernel
theorem dX5_find_13 : decode cX5_find 13 = .ok (.getfield 28, 3) := by decide +kernel
theorem dX5_find_16 : decode cX5_find 16 = .ok (.iconst (-1), 1) := by decide +kernel
theorem dX5_find_17 : decode cX5_find 17 = .ok (.invokestatic 50, 3) := by decide +kernel
theorem dX5_find_20 : decode cX5_find 20 = .ok (.aload_n 0, 1) := by decide +kernel
theorem dX5_find_21 : decode cX5_find 21 = .ok (.getfield 25, 3) := by decide +kernel
theorem dX5_find_24 : decode cX5_find 24 = .ok (.iconst (-1), 1) := by decide +kernel
theorem dX5_find_25 : decode cX5_find 25 = .ok (.invokestatic 50, 3) := by decide +kernel
theorem dX5_find_28 : decode cX5_find 28 = .ok (.aload_n 0, 1) := by decide +kernel
theorem dX5_find_29 : decode cX5_find 29 = .ok (.iload_n 3, 1) := by decide +kernel
theorem dX5_find_30 : decode cX5_find 30 = .ok (.iconst 0, 1) := by decide +kernel
theorem dX5_find_31 : decode cX5_find 31 = .ok (.iload 4, 2) := by decide +kernel
theorem dX5_find_33 : decode cX5_find 33 = .ok (.invokevirtual 63, 3) := by decide +kernel
theorem dX5_find_36 : decode cX5_find 36 = .ok (.return_, 1) := by decide +kernel
theorem dX5_pieceAt_0 : decode cX5_pieceAt 0 = .ok (.iload_n 1, 1) := by decide +kernel
theorem dX5_pieceAt_1 : decode cX5_pieceAt 1 = .ok (.ifCond .lt 17, 3) := by decide +kernel
theorem dX5_pieceAt_4 : decode cX5_pieceAt 4 = .ok (.iload_n 1, 1) := by decide +kernel
theorem dX5_pieceAt_5 : decode cX5_pieceAt 5 = .ok (.iconst 4, 1) := by decide +kernel
theorem dX5_pieceAt_6 : decode cX5_pieceAt 6 = .ok (.if_icmp .ge 12, 3) := by decide +kernel
theorem dX5_pieceAt_9 : decode cX5_pieceAt 9 = .ok (.aload_n 0, 1) := by decide +kernel
theorem dX5_pieceAt_10 : decode cX5_pieceAt 10 = .ok (.getfield 28, 3) := by decide +kernel
theorem dX5_pieceAt_13 : decode cX5_pieceAt 13 = .ok (.iload_n 1, 1) := by decide +kernel
theorem dX5_pieceAt_14 : decode cX5_pieceAt 14 = .ok (.iaload, 1) := by decide +kernel
theorem dX5_pieceAt_15 : decode cX5_pieceAt 15 = .ok (.goto 4, 3) := by decide +kernel
theorem dX5_pieceAt_18 : decode cX5_pieceAt 18 = .ok (.iconst (-1), 1) := by decide +kernel
theorem dX5_pieceAt_19 : decode cX5_pieceAt 19 = .ok (.ireturn, 1) := by decide +kernel
theorem dX5_search_0 : decode cX5_search 0 = .ok (.iload_n 1, 1) := by decide +kernel
theorem dX5_search_1 : decode cX5_search 1 = .ok (.ifCond .ne 45, 3) := by decide +kernel
theorem dX5_search_4 : decode cX5_search 4 = .ok (.aload_n 0, 1) := by decide +kernel
theorem dX5_search_5 : decode cX5_search 5 = .ok (.getfield 18, 3) := by decide +kernel
theorem dX5_search_8 : decode cX5_search 8 = .ok (.iload_n 2, 1) := by decide +kernel
theorem dX5_search_9 : decode cX5_search 9 = .ok (.aaload, 1) := by decide +kernel
theorem dX5_search_10 : decode cX5_search 10 = .ok (.iload_n 3, 1) := by decide +kernel
theorem dX5_search_11 : decode cX5_search 11 = .ok (.invokestatic 67, 3) := by decide +kernel
theorem dX5_search_14 : decode cX5_search 14 = .ok (.istore 4, 2) := by decide +kernel
theorem dX5_search_16 : decode cX5_search 16 = .ok (.iload 4, 2) := by decide +kernel
theorem dX5_search_18 : decode cX5_search 18 = .ok (.aload_n 0, 1) := by decide +kernel
theorem dX5_search_19 : decode cX5_search 19 = .ok (.getfield 10, 3) := by decide +kernel
theorem dX5_search_22 : decode cX5_search 22 = .ok (.if_icmp .le 23, 3) := by decide +kernel
theorem dX5_search_25 : decode cX5_search 25 = .ok (.aload_n 0, 1) := by decide +kernel
theorem dX5_search_26 : decode cX5_search 26 = .ok (.iload 4, 2) := by decide +kernel
theorem dX5_search_28 : decode cX5_search 28 = .ok (.putfield 10, 3) := by decide +kernel
theorem dX5_search_31 : decode cX5_search 31 = .ok (.aload_n 0, 1) := by decide +kernel
theorem dX5_search_32 : decode cX5_search 32 = .ok (.getfield 25, 3) := by decide +kernel
theorem dX5_search_35 : decode cX5_search 35 = .ok (.iconst 0, 1) := by decide +kernel
theorem dX5_search_36 : decode cX5_search 36 = .ok (.aload_n 0, 1) := by decide +kernel
theorem dX5_search_37 : decode cX5_search 37 = .ok (.getfield 28, 3) := by decide +kernel
theorem dX5_search_40 : decode cX5_search 40 = .ok (.iconst 0, 1) := by decide +kernel
theorem dX5_search_41 : decode cX5_search 41 = .ok (.iconst 4, 1) := by decide +kernel
theorem dX5_search_42 : decode cX5_search 42 = .ok (.invokestatic 71, 3) := by decide +kernel
theorem dX5_search_45 : decode cX5_search 45 = .ok (.return_, 1) := by decide +kernel
theorem dX5_search_46 : decode cX5_search 46 = .ok (.iconst 0, 1) := by decide +kernel
theorem dX5_search_47 : decode cX5_search 47 = .ok (.istore 4, 2) := by decide +kernel
theorem dX5_search_49 : decode cX5_search 49 = .ok (.iload 4, 2) := by decide +kernel
theorem dX5_search_51 : decode cX5_search 51 = .ok (.iconst 4, 1) := by decide +kernel
theorem dX5_search_52 : decode cX5_search 52 = .ok (.if_icmp .ge 85, 3) := by decide +kernel
theorem dX5_search_55 : decode cX5_search 55 = .ok (.iload_n 2, 1) := by decide +kernel
theorem dX5_search_56 : decode cX5_search 56 = .ok (.iconst 4, 1) := by decide +kernel
theorem dX5_search_57 : decode cX5_search 57 = .ok (.if_icmp .ge 80, 3) := by decide +kernel
theorem dX5_search_60 : decode cX5_search 60 = .ok (.iload_n 1, 1) := by decide +kernel
theorem dX5_search_61 : decode cX5_search 61 = .ok (.iload 4, 2) := by decide +kernel
theorem dX5_search_63 : decode cX5_search 63 = .ok (.ishr, 1) := by decide +kernel
theorem dX5_search_64 : decode cX5_search 64 = .ok (.iconst 1, 1) := by decide +kernel
theorem dX5_search_65 : decode cX5_search 65 = .ok (.iand, 1) := by decide +kernel
theorem dX5_search_66 : decode cX5_search 66 = .ok (.ifCond .eq 65, 3) := by decide +kernel
theorem dX5_search_69 : decode cX5_search 69 = .ok (.aload_n 0, 1) := by decide +kernel
theorem dX5_search_70 : decode cX5_search 70 = .ok (.getfield 25, 3) := by decide +kernel
theorem dX5_search_73 : decode cX5_search 73 = .ok (.iload_n 2, 1) := by decide +kernel
theorem dX5_search_74 : decode cX5_search 74 = .ok (.iload 4, 2) := by decide +kernel
theorem dX5_search_76 : decode cX5_search 76 = .ok (.iastore, 1) := by decide +kernel
theorem dX5_search_77 : decode cX5_search 77 = .ok (.aload_n 0, 1) := by decide +kernel
theorem dX5_search_78 : decode cX5_search 78 = .ok (.getfield 37, 3) := by decide +kernel
theorem dX5_search_81 : decode cX5_search 81 = .ok (.aload_n 0, 1) := by decide +kernel
theorem dX5_search_82 : decode cX5_search 82 = .ok (.getfield 31, 3) := by decide +kernel
theorem dX5_search_85 : decode cX5_search 85 = .ok (.aload_n 0, 1) := by decide +kernel
theorem dX5_search_86 : decode cX5_search 86 = .ok (.getfield 34, 3) := by decide +kernel
theorem dX5_search_89 : decode cX5_search 89 = .ok (.iload 4, 2) := by decide +kernel
theorem dX5_search_91 : decode cX5_search 91 = .ok (.invokevirtual 77, 3) := by decide +kernel
theorem dX5_search_94 : decode cX5_search 94 = .ok (.aload_n 0, 1) := by decide +kernel
theorem dX5_search_95 : decode cX5_search 95 = .ok (.getfield 41, 3) := by decide +kernel
theorem dX5_search_98 : decode cX5_search 98 = .ok (.aload_n 0, 1) := by decide +kernel
theorem dX5_search_99 : decode cX5_search 99 = .ok (.getfield 18, 3) := by decide +kernel
theorem dX5_search_102 : decode cX5_search 102 = .ok (.iload_n 2, 1) := by decide +kernel
theorem dX5_search_103 : decode cX5_search 103 = .ok (.aaload, 1) := by decide +kernel
theorem dX5_search_104 : decode cX5_search 104 = .ok (.aload_n 0, 1) := by decide +kernel
theorem dX5_search_105 : decode cX5_search 105 = .ok (.getfield 18, 3) := by decide +kernel
theorem dX5_search_108 : decode cX5_search 108 = .ok (.iload_n 2, 1) := by decide +kernel
theorem dX5_search_109 : decode cX5_search 109 = .ok (.iconst 1, 1) := by decide +kernel
theorem dX5_search_110 : decode cX5_search 110 = .ok (.iadd, 1) := by decide +kernel
theorem dX5_search_111 : decode cX5_search 111 = .ok (.aaload, 1) := by decide +kernel
theorem dX5_search_112 : decode cX5_search 112 = .ok (.invokevirtual 82, 3) := by decide +kernel
theorem dX5_search_115 : decode cX5_search 115 = .ok (.aload_n 0, 1) := by decide +kernel
theorem dX5_search_116 : decode cX5_search 116 = .ok (.iload_n 1, 1) := by decide +kernel
theorem dX5_search_117 : decode cX5_search 117 = .ok (.iconst 1, 1) := by decide +kernel
theorem dX5_search_118 : decode cX5_search 118 = .ok (.iload 4, 2) := by decide +kernel
theorem dX5_search_120 : decode cX5_search 120 = .ok (.ishl, 1) := by decide +kernel
theorem dX5_search_121 : decode cX5_search 121 = .ok (.iconst (-1), 1) := by decide +kernel
theorem dX5_search_122 : decode cX5_search 122 = .ok (.ixor, 1) := by decide +kernel
theorem dX5_search_123 : decode cX5_search 123 = .ok (.iand, 1) := by decide +kernel
theorem dX5_search_124 : decode cX5_search 124 = .ok (.iload_n 2, 1) := by decide +kernel
theorem dX5_search_125 : decode cX5_search 125 = .ok (.iconst 1, 1) := by decide +kernel
theorem dX5_search_126 : decode cX5_search 126 = .ok (.iadd, 1) := by decide +kernel
theorem dX5_search_127 : decode cX5_search 127 = .ok (.iload_n 3, 1) := by decide +kernel
theorem dX5_search_128 : decode cX5_search 128 = .ok (.invokevirtual 63, 3) := by decide +kernel
theorem dX5_search_131 : decode cX5_search 131 = .ok (.iinc 4 1, 3) := by decide +kernel
theorem dX5_search_134 : decode cX5_search 134 = .ok (.goto (-85), 3) := by decide +kernel
theorem dX5_search_137 : decode cX5_search 137 = .ok (.return_, 1) := by decide +kernel
theorem dX5_mostFrom_0 : decode cX5_mostFrom 0 = .ok (.ldc 9, 2) := by decide +kernel
theorem dX5_mostFrom_2 : decode cX5_mostFrom 2 = .ok (.istore_n 2, 1) := by decide +kernel
theorem dX5_mostFrom_3 : decode cX5_mostFrom 3 = .ok (.iload_n 1, 1) := by decide +kernel
theorem dX5_mostFrom_4 : decode cX5_mostFrom 4 = .ok (.bipush 20, 2) := by decide +kernel
theorem dX5_mostFrom_6 : decode cX5_mostFrom 6 = .ok (.iadd, 1) := by decide +kernel
theorem dX5_mostFrom_7 : decode cX5_mostFrom 7 = .ok (.istore_n 3, 1) := by decide +kernel
theorem dX5_mostFrom_8 : decode cX5_mostFrom 8 = .ok (.iload_n 3, 1) := by decide +kernel
theorem dX5_mostFrom_9 : decode cX5_mostFrom 9 = .ok (.aload_n 0, 1) := by decide +kernel
theorem dX5_mostFrom_10 : decode cX5_mostFrom 10 = .ok (.arraylength, 1) := by decide +kernel
theorem dX5_mostFrom_11 : decode cX5_mostFrom 11 = .ok (.if_icmp .ge 17, 3) := by decide +kernel
theorem dX5_mostFrom_14 : decode cX5_mostFrom 14 = .ok (.iload_n 2, 1) := by decide +kernel
theorem dX5_mostFrom_15 : decode cX5_mostFrom 15 = .ok (.aload_n 0, 1) := by decide +kernel
theorem dX5_mostFrom_16 : decode cX5_mostFrom 16 = .ok (.iload_n 3, 1) := by decide +kernel
theorem dX5_mostFrom_17 : decode cX5_mostFrom 17 = .ok (.iaload, 1) := by decide +kernel
theorem dX5_mostFrom_18 : decode cX5_mostFrom 18 = .ok (.invokestatic 88, 3) := by decide +kernel
theorem dX5_mostFrom_21 : decode cX5_mostFrom 21 = .ok (.istore_n 2, 1) := by decide +kernel
theorem dX5_mostFrom_22 : decode cX5_mostFrom 22 = .ok (.iinc 3 1, 3) := by decide +kernel
theorem dX5_mostFrom_25 : decode cX5_mostFrom 25 = .ok (.goto (-17), 3) := by decide +kernel
theorem dX5_mostFrom_28 : decode cX5_mostFrom 28 = .ok (.iload_n 2, 1) := by decide +kernel
theorem dX5_mostFrom_29 : decode cX5_mostFrom 29 = .ok (.ireturn, 1) := by decide +kernel
theorem dX5_largestSet_0 : decode cX5_largestSet 0 = .ok (.aload_n 0, 1) := by decide +kernel
theorem dX5_largestSet_1 : decode cX5_largestSet 1 = .ok (.iload_n 1, 1) := by decide +kernel
theorem dX5_largestSet_2 : decode cX5_largestSet 2 = .ok (.aload_n 2, 1) := by decide +kernel
theorem dX5_largestSet_3 : decode cX5_largestSet 3 = .ok (.invokevirtual 59, 3) := by decide +kernel
theorem dX5_largestSet_6 : decode cX5_largestSet 6 = .ok (.iconst 0, 1) := by decide +kernel
theorem dX5_largestSet_7 : decode cX5_largestSet 7 = .ok (.istore 4, 2) := by decide +kernel
theorem dX5_largestSet_9 : decode cX5_largestSet 9 = .ok (.iconst 1, 1) := by decide +kernel
theorem dX5_largestSet_10 : decode cX5_largestSet 10 = .ok (.aload_n 0, 1) := by decide +kernel
theorem dX5_largestSet_11 : decode cX5_largestSet 11 = .ok (.getfield 37, 3) := by decide +kernel
theorem dX5_largestSet_14 : decode cX5_largestSet 14 = .ok (.getfield 94, 3) := by decide +kernel
theorem dX5_largestSet_17 : decode cX5_largestSet 17 = .ok (.getfield 98, 3) := by decide +kernel
theorem dX5_largestSet_20 : decode cX5_largestSet 20 = .ok (.iconst 4, 1) := by decide +kernel
theorem dX5_largestSet_21 : decode cX5_largestSet 21 = .ok (.invokestatic 103, 3) := by decide +kernel
theorem dX5_largestSet_24 : decode cX5_largestSet 24 = .ok (.ishl, 1) := by decide +kernel
theorem dX5_largestSet_25 : decode cX5_largestSet 25 = .ok (.istore 5, 2) := by decide +kernel
theorem dX5_largestSet_27 : decode cX5_largestSet 27 = .ok (.iconst 1, 1) := by decide +kernel
theorem dX5_largestSet_28 : decode cX5_largestSet 28 = .ok (.istore 6, 2) := by decide +kernel
theorem dX5_largestSet_30 : decode cX5_largestSet 30 = .ok (.iload 6, 2) := by decide +kernel
theorem dX5_largestSet_32 : decode cX5_largestSet 32 = .ok (.iload 5, 2) := by decide +kernel
theorem dX5_largestSet_34 : decode cX5_largestSet 34 = .ok (.if_icmp .ge 60, 3) := by decide +kernel
theorem dX5_largestSet_37 : decode cX5_largestSet 37 = .ok (.aload_n 0, 1) := by decide +kernel
theorem dX5_largestSet_38 : decode cX5_largestSet 38 = .ok (.iload 6, 2) := by decide +kernel
theorem dX5_largestSet_40 : decode cX5_largestSet 40 = .ok (.invokevirtual 106, 3) := by decide +kernel
theorem dX5_largestSet_43 : decode cX5_largestSet 43 = .ok (.aload_n 0, 1) := by decide +kernel
theorem dX5_largestSet_44 : decode cX5_largestSet 44 = .ok (.getfield 18, 3) := by decide +kernel
theorem dX5_largestSet_47 : decode cX5_largestSet 47 = .ok (.iload 6, 2) := by decide +kernel
theorem dX5_largestSet_49 : decode cX5_largestSet 49 = .ok (.aaload, 1) := by decide +kernel
theorem dX5_largestSet_50 : decode cX5_largestSet 50 = .ok (.iload_n 3, 1) := by decide +kernel
theorem dX5_largestSet_51 : decode cX5_largestSet 51 = .ok (.invokestatic 67, 3) := by decide +kernel
theorem dX5_largestSet_54 : decode cX5_largestSet 54 = .ok (.ldc 9, 2) := by decide +kernel
theorem dX5_largestSet_56 : decode cX5_largestSet 56 = .ok (.if_icmp .eq 7, 3) := by decide +kernel
theorem dX5_largestSet_59 : decode cX5_largestSet 59 = .ok (.iconst 1, 1) := by decide +kernel
theorem dX5_largestSet_60 : decode cX5_largestSet 60 = .ok (.goto 4, 3) := by decide +kernel
theorem dX5_largestSet_63 : decode cX5_largestSet 63 = .ok (.iconst 0, 1) := by decide +kernel
theorem dX5_largestSet_64 : decode cX5_largestSet 64 = .ok (.istore 7, 2) := by decide +kernel
theorem dX5_largestSet_66 : decode cX5_largestSet 66 = .ok (.iload 7, 2) := by decide +kernel
theorem dX5_largestSet_68 : decode cX5_largestSet 68 = .ok (.ifCond .eq 20, 3) := by decide +kernel
theorem dX5_largestSet_71 : decode cX5_largestSet 71 = .ok (.iload 6, 2) := by decide +kernel
theorem dX5_largestSet_73 : decode cX5_largestSet 73 = .ok (.invokestatic 110, 3) := by decide +kernel
theorem dX5_largestSet_76 : decode cX5_largestSet 76 = .ok (.iload 4, 2) := by decide +kernel
theorem dX5_largestSet_78 : decode cX5_largestSet 78 = .ok (.invokestatic 110, 3) := by decide +kernel
theorem dX5_largestSet_81 : decode cX5_largestSet 81 = .ok (.if_icmp .le 7, 3) := by decide +kernel
theorem dX5_largestSet_84 : decode cX5_largestSet 84 = .ok (.iload 6, 2) := by decide +kernel
theorem dX5_largestSet_86 : decode cX5_largestSet 86 = .ok (.istore 4, 2) := by decide +kernel
theorem dX5_largestSet_88 : decode cX5_largestSet 88 = .ok (.iinc 6 1, 3) := by decide +kernel
theorem dX5_largestSet_91 : decode cX5_largestSet 91 = .ok (.goto (-61), 3) := by decide +kernel
theorem dX5_largestSet_94 : decode cX5_largestSet 94 = .ok (.iload 4, 2) := by decide +kernel
theorem dX5_largestSet_96 : decode cX5_largestSet 96 = .ok (.ireturn, 1) := by decide +kernel
theorem dX5_gather_0 : decode cX5_gather 0 = .ok (.aload_n 0, 1) := by decide +kernel
theorem dX5_gather_1 : decode cX5_gather 1 = .ok (.getfield 18, 3) := by decide +kernel
theorem dX5_gather_4 : decode cX5_gather 4 = .ok (.iload_n 1, 1) := by decide +kernel
theorem dX5_gather_5 : decode cX5_gather 5 = .ok (.aaload, 1) := by decide +kernel
theorem dX5_gather_6 : decode cX5_gather 6 = .ok (.ldc 9, 2) := by decide +kernel
theorem dX5_gather_8 : decode cX5_gather 8 = .ok (.invokestatic 50, 3) := by decide +kernel
theorem dX5_gather_11 : decode cX5_gather 11 = .ok (.iconst 0, 1) := by decide +kernel
theorem dX5_gather_12 : decode cX5_gather 12 = .ok (.istore_n 2, 1) := by decide +kernel
theorem dX5_gather_13 : decode cX5_gather 13 = .ok (.iload_n 2, 1) := by decide +kernel
theorem dX5_gather_14 : decode cX5_gather 14 = .ok (.iconst 4, 1) := by decide +kernel
theorem dX5_gather_15 : decode cX5_gather 15 = .ok (.if_icmp .ge 95, 3) := by decide +kernel
theorem dX5_gather_18 : decode cX5_gather 18 = .ok (.iload_n 1, 1) := by decide +kernel
theorem dX5_gather_19 : decode cX5_gather 19 = .ok (.iload_n 2, 1) := by decide +kernel
theorem dX5_gather_20 : decode cX5_gather 20 = .ok (.ishr, 1) := by decide +kernel
theorem dX5_gather_21 : decode cX5_gather 21 = .ok (.iconst 1, 1) := by decide +kernel
theorem dX5_gather_22 : decode cX5_gather 22 = .ok (.iand, 1) := by decide +kernel
theorem dX5_gather_23 : decode cX5_gather 23 = .ok (.ifCond .eq 81, 3) := by decide +kernel
theorem dX5_gather_26 : decode cX5_gather 26 = .ok (.aload_n 0, 1) := by decide +kernel
theorem dX5_gather_27 : decode cX5_gather 27 = .ok (.getfield 37, 3) := by decide +kernel
theorem dX5_gather_30 : decode cX5_gather 30 = .ok (.aload_n 0, 1) := by decide +kernel
theorem dX5_gather_31 : decode cX5_gather 31 = .ok (.getfield 31, 3) := by decide +kernel
theorem dX5_gather_34 : decode cX5_gather 34 = .ok (.aload_n 0, 1) := by decide +kernel
theorem dX5_gather_35 : decode cX5_gather 35 = .ok (.getfield 34, 3) := by decide +kernel
theorem dX5_gather_38 : decode cX5_gather 38 = .ok (.iload_n 2, 1) := by decide +kernel
theorem dX5_gather_39 : decode cX5_gather 39 = .ok (.invokevirtual 77, 3) := by decide +kernel
theorem dX5_gather_42 : decode cX5_gather 42 = .ok (.aload_n 0, 1) := by decide +kernel
theorem dX5_gather_43 : decode cX5_gather 43 = .ok (.getfield 41, 3) := by decide +kernel
theorem dX5_gather_46 : decode cX5_gather 46 = .ok (.aload_n 0, 1) := by decide +kernel
theorem dX5_gather_47 : decode cX5_gather 47 = .ok (.getfield 18, 3) := by decide +kernel
theorem dX5_gather_50 : decode cX5_gather 50 = .ok (.iload_n 1, 1) := by decide +kernel
theorem dX5_gather_51 : decode cX5_gather 51 = .ok (.iconst 1, 1) := by decide +kernel
theorem dX5_gather_52 : decode cX5_gather 52 = .ok (.iload_n 2, 1) := by decide +kernel
theorem dX5_gather_53 : decode cX5_gather 53 = .ok (.ishl, 1) := by decide +kernel
theorem dX5_gather_54 : decode cX5_gather 54 = .ok (.iconst (-1), 1) := by decide +kernel
theorem dX5_gather_55 : decode cX5_gather 55 = .ok (.ixor, 1) := by decide +kernel
theorem dX5_gather_56 : decode cX5_gather 56 = .ok (.iand, 1) := by decide +kernel
theorem dX5_gather_57 : decode cX5_gather 57 = .ok (.aaload, 1) := by decide +kernel
theorem dX5_gather_58 : decode cX5_gather 58 = .ok (.aload_n 0, 1) := by decide +kernel
theorem dX5_gather_59 : decode cX5_gather 59 = .ok (.getfield 21, 3) := by decide +kernel
theorem dX5_gather_62 : decode cX5_gather 62 = .ok (.invokevirtual 82, 3) := by decide +kernel
theorem dX5_gather_65 : decode cX5_gather 65 = .ok (.iconst 0, 1) := by decide +kernel
theorem dX5_gather_66 : decode cX5_gather 66 = .ok (.istore_n 3, 1) := by decide +kernel
theorem dX5_gather_67 : decode cX5_gather 67 = .ok (.iload_n 3, 1) := by decide +kernel
theorem dX5_gather_68 : decode cX5_gather 68 = .ok (.bipush 41, 2) := by decide +kernel
theorem dX5_gather_70 : decode cX5_gather 70 = .ok (.if_icmp .ge 34, 3) := by decide +kernel
theorem dX5_gather_73 : decode cX5_gather 73 = .ok (.aload_n 0, 1) := by decide +kernel
theorem dX5_gather_74 : decode cX5_gather 74 = .ok (.getfield 18, 3) := by decide +kernel
theorem dX5_gather_77 : decode cX5_gather 77 = .ok (.iload_n 1, 1) := by decide +kernel
theorem dX5_gather_78 : decode cX5_gather 78 = .ok (.aaload, 1) := by decide +kernel
theorem dX5_gather_79 : decode cX5_gather 79 = .ok (.iload_n 3, 1) := by decide +kernel
theorem dX5_gather_80 : decode cX5_gather 80 = .ok (.aload_n 0, 1) := by decide +kernel
theorem dX5_gather_81 : decode cX5_gather 81 = .ok (.getfield 18, 3) := by decide +kernel
theorem dX5_gather_84 : decode cX5_gather 84 = .ok (.iload_n 1, 1) := by decide +kernel
theorem dX5_gather_85 : decode cX5_gather 85 = .ok (.aaload, 1) := by decide +kernel
theorem dX5_gather_86 : decode cX5_gather 86 = .ok (.iload_n 3, 1) := by decide +kernel
theorem dX5_gather_87 : decode cX5_gather 87 = .ok (.iaload, 1) := by decide +kernel
theorem dX5_gather_88 : decode cX5_gather 88 = .ok (.aload_n 0, 1) := by decide +kernel
theorem dX5_gather_89 : decode cX5_gather 89 = .ok (.getfield 21, 3) := by decide +kernel
theorem dX5_gather_92 : decode cX5_gather 92 = .ok (.iload_n 3, 1) := by decide +kernel
theorem dX5_gather_93 : decode cX5_gather 93 = .ok (.iaload, 1) := by decide +kernel
theorem dX5_gather_94 : decode cX5_gather 94 = .ok (.invokestatic 88, 3) := by decide +kernel
theorem dX5_gather_97 : decode cX5_gather 97 = .ok (.iastore, 1) := by decide +kernel
theorem dX5_gather_98 : decode cX5_gather 98 = .ok (.iinc 3 1, 3) := by decide +kernel
theorem dX5_gather_101 : decode cX5_gather 101 = .ok (.goto (-34), 3) := by decide +kernel
theorem dX5_gather_104 : decode cX5_gather 104 = .ok (.iinc 2 1, 3) := by decide +kernel
theorem dX5_gather_107 : decode cX5_gather 107 = .ok (.goto (-94), 3) := by decide +kernel
theorem dX5_gather_110 : decode cX5_gather 110 = .ok (.return_, 1) := by decide +kernel
theorem dX6_init_0 : decode cX6_init 0 = .ok (.aload_n 0, 1) := by decide +kernel
theorem dX6_init_1 : decode cX6_init 1 = .ok (.invokespecial 5, 3) := by decide +kernel
theorem dX6_init_4 : decode cX6_init 4 = .ok (.aload_n 0, 1) := by decide +kernel
theorem dX6_init_5 : decode cX6_init 5 = .ok (.iconst 0, 1) := by decide +kernel
theorem dX6_init_6 : decode cX6_init 6 = .ok (.putfield 11, 3) := by decide +kernel
theorem dX6_init_9 : decode cX6_init 9 = .ok (.aload_n 0, 1) := by decide +kernel
theorem dX6_init_10 : decode cX6_init 10 = .ok (.iconst (-1), 1) := by decide +kernel
theorem dX6_init_11 : decode cX6_init 11 = .ok (.putfield 15, 3) := by decide +kernel
theorem dX6_init_14 : decode cX6_init 14 = .ok (.aload_n 0, 1) := by decide +kernel
theorem dX6_init_15 : decode cX6_init 15 = .ok (.sipush 901, 3) := by decide +kernel
theorem dX6_init_18 : decode cX6_init 18 = .ok (.newarray .int, 2) := by decide +kernel
theorem dX6_init_20 : decode cX6_init 20 = .ok (.putfield 18, 3) := by decide +kernel
theorem dX6_init_23 : decode cX6_init 23 = .ok (.aload_n 0, 1) := by decide +kernel
theorem dX6_init_24 : decode cX6_init 24 = .ok (.sipush 901, 3) := by decide +kernel
theorem dX6_init_27 : decode cX6_init 27 = .ok (.newarray .int, 2) := by decide +kernel
theorem dX6_init_29 : decode cX6_init 29 = .ok (.putfield 22, 3) := by decide +kernel
theorem dX6_init_32 : decode cX6_init 32 = .ok (.aload_n 0, 1) := by decide +kernel
theorem dX6_init_33 : decode cX6_init 33 = .ok (.sipush 901, 3) := by decide +kernel
theorem dX6_init_36 : decode cX6_init 36 = .ok (.newarray .int, 2) := by decide +kernel
theorem dX6_init_38 : decode cX6_init 38 = .ok (.putfield 25, 3) := by decide +kernel
theorem dX6_init_41 : decode cX6_init 41 = .ok (.aload_n 0, 1) := by decide +kernel
theorem dX6_init_42 : decode cX6_init 42 = .ok (.iconst 0, 1) := by decide +kernel
theorem dX6_init_43 : decode cX6_init 43 = .ok (.putfield 28, 3) := by decide +kernel
theorem dX6_init_46 : decode cX6_init 46 = .ok (.aload_n 0, 1) := by decide +kernel
theorem dX6_init_47 : decode cX6_init 47 = .ok (.iconst 0, 1) := by decide +kernel
theorem dX6_init_48 : decode cX6_init 48 = .ok (.putfield 31, 3) := by decide +kernel
theorem dX6_init_51 : decode cX6_init 51 = .ok (.aload_n 0, 1) := by decide +kernel
theorem dX6_init_52 : decode cX6_init 52 = .ok (.iconst 0, 1) := by decide +kernel
theorem dX6_init_53 : decode cX6_init 53 = .ok (.newarray .byte, 2) := by decide +kernel
theorem dX6_init_55 : decode cX6_init 55 = .ok (.putfield 34, 3) := by decide +kernel
theorem dX6_init_58 : decode cX6_init 58 = .ok (.aload_n 0, 1) := by decide +kernel
theorem dX6_init_59 : decode cX6_init 59 = .ok (.iconst 0, 1) := by decide +kernel
theorem dX6_init_60 : decode cX6_init 60 = .ok (.putfield 38, 3) := by decide +kernel
theorem dX6_init_63 : decode cX6_init 63 = .ok (.aload_n 0, 1) := by decide +kernel
theorem dX6_init_64 : decode cX6_init 64 = .ok (.aconst_null, 1) := by decide +kernel
theorem dX6_init_65 : decode cX6_init 65 = .ok (.putfield 41, 3) := by decide +kernel
theorem dX6_init_68 : decode cX6_init 68 = .ok (.aload_n 0, 1) := by decide +kernel
theorem dX6_init_69 : decode cX6_init 69 = .ok (.aconst_null, 1) := by decide +kernel
theorem dX6_init_70 : decode cX6_init 70 = .ok (.putfield 45, 3) := by decide +kernel
theorem dX6_init_73 : decode cX6_init 73 = .ok (.return_, 1) := by decide +kernel
theorem dX6_read_0 : decode cX6_read 0 = .ok (.aload_n 0, 1) := by decide +kernel
theorem dX6_read_1 : decode cX6_read 1 = .ok (.aload_n 1, 1) := by decide +kernel
theorem dX6_read_2 : decode cX6_read 2 = .ok (.putfield 34, 3) := by decide +kernel
theorem dX6_read_5 : decode cX6_read 5 = .ok (.aload_n 0, 1) := by decide +kernel
theorem dX6_read_6 : decode cX6_read 6 = .ok (.iload_n 2, 1) := by decide +kernel
theorem dX6_read_7 : decode cX6_read 7 = .ok (.aload_n 1, 1) := by decide +kernel
theorem dX6_read_8 : decode cX6_read 8 = .ok (.arraylength, 1) := by decide +kernel
theorem dX6_read_9 : decode cX6_read 9 = .ok (.invokestatic 49, 3) := by decide +kernel
theorem dX6_read_12 : decode cX6_read 12 = .ok (.putfield 38, 3) := by decide +kernel
theorem dX6_read_15 : decode cX6_read 15 = .ok (.aload_n 0, 1) := by decide +kernel
theorem dX6_read_16 : decode cX6_read 16 = .ok (.aload_n 3, 1) := by decide +kernel
theorem dX6_read_17 : decode cX6_read 17 = .ok (.putfield 41, 3) := by decide +kernel
theorem dX6_read_20 : decode cX6_read 20 = .ok (.aload_n 0, 1) := by decide +kernel
theorem dX6_read_21 : decode cX6_read 21 = .ok (.getfield 41, 3) := by decide +kernel
theorem dX6_read_24 : decode cX6_read 24 = .ok (.invokevirtual 55, 3) := by decide +kernel
theorem dX6_read_27 : decode cX6_read 27 = .ok (.aload_n 0, 1) := by decide +kernel
theorem dX6_read_28 : decode cX6_read 28 = .ok (.iconst 0, 1) := by decide +kernel
theorem dX6_read_29 : decode cX6_read 29 = .ok (.putfield 31, 3) := by decide +kernel
theorem dX6_read_32 : decode cX6_read 32 = .ok (.aload_n 0, 1) := by decide +kernel
theorem dX6_read_33 : decode cX6_read 33 = .ok (.iconst 0, 1) := by decide +kernel
theorem dX6_read_34 : decode cX6_read 34 = .ok (.putfield 11, 3) := by decide +kernel
theorem dX6_read_37 : decode cX6_read 37 = .ok (.aload_n 0, 1) := by decide +kernel
theorem dX6_read_38 : decode cX6_read 38 = .ok (.iconst (-1), 1) := by decide +kernel
theorem dX6_read_39 : decode cX6_read 39 = .ok (.putfield 15, 3) := by decide +kernel
theorem dX6_read_42 : decode cX6_read 42 = .ok (.aload_n 0, 1) := by decide +kernel
theorem dX6_read_43 : decode cX6_read 43 = .ok (.invokevirtual 60, 3) := by decide +kernel
theorem dX6_read_46 : decode cX6_read 46 = .ok (.aload_n 0, 1) := by decide +kernel
theorem dX6_read_47 : decode cX6_read 47 = .ok (.sipush 208, 3) := by decide +kernel
theorem dX6_read_50 : decode cX6_read 50 = .ok (.invokevirtual 63, 3) := by decide +kernel
theorem dX6_read_53 : decode cX6_read 53 = .ok (.ifCond .eq 12, 3) := by decide +kernel
theorem dX6_read_56 : decode cX6_read 56 = .ok (.aload_n 0, 1) := by decide +kernel
theorem dX6_read_57 : decode cX6_read 57 = .ok (.bipush 59, 2) := by decide +kernel
theorem dX6_read_59 : decode cX6_read 59 = .ok (.invokevirtual 63, 3) := by decide +kernel
theorem dX6_read_62 : decode cX6_read 62 = .ok (.ifCond .ne 5, 3) := by decide +kernel
theorem dX6_read_65 : decode cX6_read 65 = .ok (.iconst 0, 1) := by decide +kernel
theorem dX6_read_66 : decode cX6_read 66 = .ok (.ireturn, 1) := by decide +kernel
theorem dX6_read_67 : decode cX6_read 67 = .ok (.aload_n 0, 1) := by decide +kernel
theorem dX6_read_68 : decode cX6_read 68 = .ok (.getfield 41, 3) := by decide +kernel
theorem dX6_read_71 : decode cX6_read 71 = .ok (.iconst 1, 1) := by decide +kernel
theorem dX6_read_72 : decode cX6_read 72 = .ok (.putfield 67, 3) := by decide +kernel
theorem dX6_read_75 : decode cX6_read 75 = .ok (.iconst 0, 1) := by decide +kernel
theorem dX6_read_76 : decode cX6_read 76 = .ok (.istore 4, 2) := by decide +kernel
theorem dX6_read_78 : decode cX6_read 78 = .ok (.iload 4, 2) := by decide +kernel
theorem dX6_read_80 : decode cX6_read 80 = .ok (.sipush 900, 3) := by decide +kernel
theorem dX6_read_83 : decode cX6_read 83 = .ok (.if_icmp .ge 48, 3) := by decide +kernel
theorem dX6_read_86 : decode cX6_read 86 = .ok (.aload_n 0, 1) := by decide +kernel
theorem dX6_read_87 : decode cX6_read 87 = .ok (.invokevirtual 70, 3) := by decide +kernel
theorem dX6_read_90 : decode cX6_read 90 = .ok (.iconst 1, 1) := by decide +kernel
theorem dX6_read_91 : decode cX6_read 91 = .ok (.if_icmp .eq 40, 3) := by decide +kernel
theorem dX6_read_94 : decode cX6_read 94 = .ok (.aload_n 0, 1) := by decide +kernel
theorem dX6_read_95 : decode cX6_read 95 = .ok (.invokevirtual 74, 3) := by decide +kernel
theorem dX6_read_98 : decode cX6_read 98 = .ok (.ifCond .eq 12, 3) := by decide +kernel
theorem dX6_read_101 : decode cX6_read 101 = .ok (.aload_n 0, 1) := by decide +kernel
theorem dX6_read_102 : decode cX6_read 102 = .ok (.bipush 59, 2) := by decide +kernel
theorem dX6_read_104 : decode cX6_read 104 = .ok (.invokevirtual 63, 3) := by decide +kernel
theorem dX6_read_107 : decode cX6_read 107 = .ok (.ifCond .ne 5, 3) := by decide +kernel
theorem dX6_read_110 : decode cX6_read 110 = .ok (.iconst 0, 1) := by decide +kernel
theorem dX6_read_111 : decode cX6_read 111 = .ok (.ireturn, 1) := by decide +kernel
theorem dX6_read_112 : decode cX6_read 112 = .ok (.aload_n 0, 1) := by decide +kernel
theorem dX6_read_113 : decode cX6_read 113 = .ok (.getfield 41, 3) := by decide +kernel
theorem dX6_read_116 : decode cX6_read 116 = .ok (.dup, 1) := by decide +kernel
theorem dX6_read_117 : decode cX6_read 117 = .ok (.getfield 67, 3) := by decide +kernel
theorem dX6_read_120 : decode cX6_read 120 = .ok (.iconst 1, 1) := by decide +kernel
theorem dX6_read_121 : decode cX6_read 121 = .ok (.iadd, 1) := by decide +kernel
theorem dX6_read_122 : decode cX6_read 122 = .ok (.putfield 67, 3) := by decide +kernel
theorem dX6_read_125 : decode cX6_read 125 = .ok (.iinc 4 1, 3) := by decide +kernel
theorem dX6_read_128 : decode cX6_read 128 = .ok (.goto (-50), 3) := by decide +kernel
theorem dX6_read_131 : decode cX6_read 131 = .ok (.iconst 1, 1) := by decide +kernel
theorem dX6_read_132 : decode cX6_read 132 = .ok (.ireturn, 1) := by decide +kernel
theorem dX6_cut_0 : decode cX6_cut 0 = .ok (.aload_n 0, 1) := by decide +kernel
theorem dX6_cut_1 : decode cX6_cut 1 = .ok (.iconst 0, 1) := by decide +kernel
theorem dX6_cut_2 : decode cX6_cut 2 = .ok (.putfield 28, 3) := by decide +kernel
theorem dX6_cut_5 : decode cX6_cut 5 = .ok (.iconst 0, 1) := by decide +kernel
theorem dX6_cut_6 : decode cX6_cut 6 = .ok (.istore_n 1, 1) := by decide +kernel
theorem dX6_cut_7 : decode cX6_cut 7 = .ok (.iconst 0, 1) := by decide +kernel
theorem dX6_cut_8 : decode cX6_cut 8 = .ok (.istore_n 2, 1) := by decide +kernel
theorem dX6_cut_9 : decode cX6_cut 9 = .ok (.iload_n 2, 1) := by decide +kernel
theorem dX6_cut_10 : decode cX6_cut 10 = .ok (.aload_n 0, 1) := by decide +kernel
theorem dX6_cut_11 : decode cX6_cut 11 = .ok (.getfield 38, 3) := by decide +kernel
theorem dX6_cut_14 : decode cX6_cut 14 = .ok (.if_icmp .ge 133, 3) := by decide +kernel
theorem dX6_cut_17 : decode cX6_cut 17 = .ok (.iload_n 1, 1) := by decide +kernel
theorem dX6_cut_18 : decode cX6_cut 18 = .ok (.aload_n 0, 1) := by decide +kernel
theorem dX6_cut_19 : decode cX6_cut 19 = .ok (.getfield 38, 3) := by decide +kernel
theorem dX6_cut_22 : decode cX6_cut 22 = .ok (.if_icmp .ge 125, 3) := by decide +kernel
theorem dX6_cut_25 : decode cX6_cut 25 = .ok (.aload_n 0, 1) := by decide +kernel
theorem dX6_cut_26 : decode cX6_cut 26 = .ok (.iload_n 1, 1) := by decide +kernel
theorem dX6_cut_27 : decode cX6_cut 27 = .ok (.invokevirtual 78, 3) := by decide +kernel
theorem dX6_cut_30 : decode cX6_cut 30 = .ok (.istore_n 3, 1) := by decide +kernel
theorem dX6_cut_31 : decode cX6_cut 31 = .ok (.iload_n 1, 1) := by decide +kernel
theorem dX6_cut_32 : decode cX6_cut 32 = .ok (.iconst 1, 1) := by decide +kernel
theorem dX6_cut_33 : decode cX6_cut 33 = .ok (.iadd, 1) := by decide +kernel
theorem dX6_cut_34 : decode cX6_cut 34 = .ok (.istore 4, 2) := by decide +kernel
theorem dX6_cut_36 : decode cX6_cut 36 = .ok (.iload_n 3, 1) := by decide +kernel
theorem dX6_cut_37 : decode cX6_cut 37 = .ok (.invokestatic 82, 3) := by decide +kernel
theorem dX6_cut_40 : decode cX6_cut 40 = .ok (.ifCond .eq 26, 3) := by decide +kernel
theorem dX6_cut_43 : decode cX6_cut 43 = .ok (.aload_n 0, 1) := by decide +kernel
theorem dX6_cut_44 : decode cX6_cut 44 = .ok (.iload_n 1, 1) := by decide +kernel
theorem dX6_cut_45 : decode cX6_cut 45 = .ok (.invokevirtual 85, 3) := by decide +kernel
theorem dX6_cut_48 : decode cX6_cut 48 = .ok (.istore 4, 2) := by decide +kernel
theorem dX6_cut_50 : decode cX6_cut 50 = .ok (.aload_n 0, 1) := by decide +kernel
theorem dX6_cut_51 : decode cX6_cut 51 = .ok (.aload_n 0, 1) := by decide +kernel
theorem dX6_cut_52 : decode cX6_cut 52 = .ok (.iload_n 1, 1) := by decide +kernel
theorem dX6_cut_53 : decode cX6_cut 53 = .ok (.iload 4, 2) := by decide +kernel
theorem dX6_cut_55 : decode cX6_cut 55 = .ok (.invokevirtual 88, 3) := by decide +kernel
theorem dX6_cut_58 : decode cX6_cut 58 = .ok (.iconst 0, 1) := by decide +kernel
theorem dX6_cut_59 : decode cX6_cut 59 = .ok (.iload_n 1, 1) := by decide +kernel
theorem dX6_cut_60 : decode cX6_cut 60 = .ok (.invokevirtual 91, 3) := by decide +kernel
theorem dX6_cut_63 : decode cX6_cut 63 = .ok (.goto 75, 3) := by decide +kernel
theorem dX6_cut_66 : decode cX6_cut 66 = .ok (.iload_n 3, 1) := by decide +kernel
theorem dX6_cut_67 : decode cX6_cut 67 = .ok (.invokestatic 95, 3) := by decide +kernel
theorem dX6_cut_70 : decode cX6_cut 70 = .ok (.ifCond .eq 38, 3) := by decide +kernel
theorem dX6_cut_73 : decode cX6_cut 73 = .ok (.aload_n 0, 1) := by decide +kernel
theorem dX6_cut_74 : decode cX6_cut 74 = .ok (.iload_n 1, 1) := by decide +kernel
theorem dX6_cut_75 : decode cX6_cut 75 = .ok (.invokevirtual 98, 3) := by decide +kernel
theorem dX6_cut_78 : decode cX6_cut 78 = .ok (.istore 4, 2) := by decide +kernel
theorem dX6_cut_80 : decode cX6_cut 80 = .ok (.aload_n 0, 1) := by decide +kernel
theorem dX6_cut_81 : decode cX6_cut 81 = .ok (.iload 4, 2) := by decide +kernel
theorem dX6_cut_83 : decode cX6_cut 83 = .ok (.iload_n 1, 1) := by decide +kernel
theorem dX6_cut_84 : decode cX6_cut 84 = .ok (.isub, 1) := by decide +kernel
theorem dX6_cut_85 : decode cX6_cut 85 = .ok (.iconst 3, 1) := by decide +kernel
theorem dX6_cut_86 : decode cX6_cut 86 = .ok (.if_icmp .le 7, 3) := by decide +kernel
theorem dX6_cut_89 : decode cX6_cut 89 = .ok (.iconst 2, 1) := by decide +kernel
theorem dX6_cut_90 : decode cX6_cut 90 = .ok (.goto 4, 3) := by decide +kernel
theorem dX6_cut_93 : decode cX6_cut 93 = .ok (.iconst 3, 1) := by decide +kernel
theorem dX6_cut_94 : decode cX6_cut 94 = .ok (.aload_n 0, 1) := by decide +kernel
theorem dX6_cut_95 : decode cX6_cut 95 = .ok (.iload_n 1, 1) := by decide +kernel
theorem dX6_cut_96 : decode cX6_cut 96 = .ok (.iload 4, 2) := by decide +kernel
theorem dX6_cut_98 : decode cX6_cut 98 = .ok (.invokevirtual 101, 3) := by decide +kernel
theorem dX6_cut_101 : decode cX6_cut 101 = .ok (.iload_n 1, 1) := by decide +kernel
theorem dX6_cut_102 : decode cX6_cut 102 = .ok (.invokevirtual 91, 3) := by decide +kernel
theorem dX6_cut_105 : decode cX6_cut 105 = .ok (.goto 33, 3) := by decide +kernel
theorem dX6_cut_108 : decode cX6_cut 108 = .ok (.iload_n 3, 1) := by decide +kernel
theorem dX6_cut_109 : decode cX6_cut 109 = .ok (.bipush 32, 2) := by decide +kernel
theorem dX6_cut_111 : decode cX6_cut 111 = .ok (.if_icmp .eq 27, 3) := by decide +kernel
theorem dX6_cut_114 : decode cX6_cut 114 = .ok (.iload_n 3, 1) := by decide +kernel
theorem dX6_cut_115 : decode cX6_cut 115 = .ok (.bipush 10, 2) := by decide +kernel
theorem dX6_cut_117 : decode cX6_cut 117 = .ok (.if_icmp .eq 21, 3) := by decide +kernel
theorem dX6_cut_120 : decode cX6_cut 120 = .ok (.aload_n 0, 1) := by decide +kernel
theorem dX6_cut_121 : decode cX6_cut 121 = .ok (.iload_n 3, 1) := by decide +kernel
theorem dX6_cut_122 : decode cX6_cut 122 = .ok (.invokestatic 104, 3) := by decide +kernel
theorem dX6_cut_125 : decode cX6_cut 125 = .ok (.ifCond .eq 7, 3) := by decide +kernel
theorem dX6_cut_128 : decode cX6_cut 128 = .ok (.iload_n 3, 1) := by decide +kernel
theorem dX6_cut_129 : decode cX6_cut 129 = .ok (.goto 4, 3) := by decide +kernel
theorem dX6_cut_132 : decode cX6_cut 132 = .ok (.iconst 2, 1) := by decide +kernel
theorem dX6_cut_133 : decode cX6_cut 133 = .ok (.iconst 0, 1) := by decide +kernel
theorem dX6_cut_134 : decode cX6_cut 134 = .ok (.iload_n 1, 1) := by decide +kernel
theorem dX6_cut_135 : decode cX6_cut 135 = .ok (.invokevirtual 91, 3) := by decide +kernel
theorem dX6_cut_138 : decode cX6_cut 138 = .ok (.iload 4, 2) := by decide +kernel
theorem dX6_cut_140 : decode cX6_cut 140 = .ok (.istore_n 1, 1) := by decide +kernel
theorem dX6_cut_141 : decode cX6_cut 141 = .ok (.iinc 2 1, 3) := by decide +kernel
theorem dX6_cut_144 : decode cX6_cut 144 = .ok (.goto (-135), 3) := by decide +kernel
theorem dX6_cut_147 : decode cX6_cut 147 = .ok (.aload_n 0, 1) := by decide +kernel
theorem dX6_cut_148 : decode cX6_cut 148 = .ok (.iconst 1, 1) := by decide +kernel
theorem dX6_cut_149 : decode cX6_cut 149 = .ok (.iconst 0, 1) := by decide +kernel
theorem dX6_cut_150 : decode cX6_cut 150 = .ok (.aload_n 0, 1) := by decide +kernel
theorem dX6_cut_151 : decode cX6_cut 151 = .ok (.getfield 38, 3) := by decide +kernel
theorem dX6_cut_154 : decode cX6_cut 154 = .ok (.invokevirtual 91, 3) := by decide +kernel
theorem dX6_cut_157 : decode cX6_cut 157 = .ok (.return_, 1) := by decide +kernel
theorem dX6_addToken_0 : decode cX6_addToken 0 = .ok (.aload_n 0, 1) := by decide +kernel
theorem dX6_addToken_1 : decode cX6_addToken 1 = .ok (.getfield 28, 3) := by decide +kernel
theorem dX6_addToken_4 : decode cX6_addToken 4 = .ok (.aload_n 0, 1) := by decide +kernel
theorem dX6_addToken_5 : decode cX6_addToken 5 = .ok (.getfield 18, 3) := by decide +kernel
theorem dX6_addToken_8 : decode cX6_addToken 8 = .ok (.arraylength, 1) := by decide +kernel
theorem dX6_addToken_9 : decode cX6_addToken 9 = .ok (.if_icmp .ge 43, 3) := by decide +kernel
theorem dX6_addToken_12 : decode cX6_addToken 12 = .ok (.aload_n 0, 1) := by decide +kernel
theorem dX6_addToken_13 : decode cX6_addToken 13 = .ok (.getfield 18, 3) := by decide +kernel
theorem dX6_addToken_16 : decode cX6_addToken 16 = .ok (.aload_n 0, 1) := by decide +kernel
theorem dX6_addToken_17 : decode cX6_addToken 17 = .ok (.getfield 28, 3) := by decide +kernel
theorem dX6_addToken_20 : decode cX6_addToken 20 = .ok (.iload_n 1, 1) := by decide +kernel
theorem dX6_addToken_21 : decode cX6_addToken 21 = .ok (.iastore, 1) := by decide +kernel
theorem dX6_addToken_22 : decode cX6_addToken 22 = .ok (.aload_n 0, 1) := by decide +kernel
theorem dX6_addToken_23 : decode cX6_addToken 23 = .ok (.getfield 22, 3) := by decide +kernel
theorem dX6_addToken_26 : decode cX6_addToken 26 = .ok (.aload_n 0, 1) := by decide +kernel
theorem dX6_addToken_27 : decode cX6_addToken 27 = .ok (.getfield 28, 3) := by decide +kernel
theorem dX6_addToken_30 : decode cX6_addToken 30 = .ok (.iload_n 2, 1) := by decide +kernel
theorem dX6_addToken_31 : decode cX6_addToken 31 = .ok (.iastore, 1) := by decide +kernel
theorem dX6_addToken_32 : decode cX6_addToken 32 = .ok (.aload_n 0, 1) := by decide +kernel
theorem dX6_addToken_33 : decode cX6_addToken 33 = .ok (.getfield 25, 3) := by decide +kernel
theorem dX6_addToken_36 : decode cX6_addToken 36 = .ok (.aload_n 0, 1) := by decide +kernel
theorem dX6_addToken_37 : decode cX6_addToken 37 = .ok (.getfield 28, 3) := by decide +kernel
theorem dX6_addToken_40 : decode cX6_addToken 40 = .ok (.iload_n 3, 1) := by decide +kernel
theorem dX6_addToken_41 : decode cX6_addToken 41 = .ok (.iastore, 1) := by decide +kernel
theorem dX6_addToken_42 : decode cX6_addToken 42 = .ok (.aload_n 0, 1) := by decide +kernel
theorem dX6_addToken_43 : decode cX6_addToken 43 = .ok (.dup, 1) := by decide +kernel
theorem dX6_addToken_44 : decode cX6_addToken 44 = .ok (.getfield 28, 3) := by decide +kernel
theorem dX6_addToken_47 : decode cX6_addToken 47 = .ok (.iconst 1, 1) := by decide +kernel
theorem dX6_addToken_48 : decode cX6_addToken 48 = .ok (.iadd, 1) := by decide +kernel
theorem dX6_addToken_49 : decode cX6_addToken 49 = .ok (.putfield 28, 3) := by decide +kernel
theorem dX6_addToken_52 : decode cX6_addToken 52 = .ok (.return_, 1) := by decide +kernel
theorem dX6_signAt_0 : decode cX6_signAt 0 = .ok (.iload_n 1, 1) := by decide +kernel
theorem dX6_signAt_1 : decode cX6_signAt 1 = .ok (.ifCond .lt 24, 3) := by decide +kernel
theorem dX6_signAt_4 : decode cX6_signAt 4 = .ok (.iload_n 1, 1) := by decide +kernel
theorem dX6_signAt_5 : decode cX6_signAt 5 = .ok (.aload_n 0, 1) := by decide +kernel
theorem dX6_signAt_6 : decode cX6_signAt 6 = .ok (.getfield 38, 3) := by decide +kernel
theorem dX6_signAt_9 : decode cX6_signAt 9 = .ok (.if_icmp .ge 16, 3) := by decide +kernel
theorem dX6_signAt_12 : decode cX6_signAt 12 = .ok (.aload_n 0, 1) := by decide +kernel
theorem dX6_signAt_13 : decode cX6_signAt 13 = .ok (.getfield 34, 3) := by decide +kernel
theorem dX6_signAt_16 : decode cX6_signAt 16 = .ok (.iload_n 1, 1) := by decide +kernel
theorem dX6_signAt_17 : decode cX6_signAt 17 = .ok (.baload, 1) := by decide +kernel
theorem dX6_signAt_18 : decode cX6_signAt 18 = .ok (.sipush 255, 3) := by decide +kernel
theorem dX6_signAt_21 : decode cX6_signAt 21 = .ok (.iand, 1) := by decide +kernel
theorem dX6_signAt_22 : decode cX6_signAt 22 = .ok (.goto 4, 3) := by decide +kernel
theorem dX6_signAt_25 : decode cX6_signAt 25 = .ok (.iconst 0, 1) := by decide +kernel
theorem dX6_signAt_26 : decode cX6_signAt 26 = .ok (.ireturn, 1) := by decide +kernel
theorem dX6_isLetter_0 : decode cX6_isLetter 0 = .ok (.iload_n 0, 1) := by decide +kernel
theorem dX6_isLetter_1 : decode cX6_isLetter 1 = .ok (.bipush 97, 2) := by decide +kernel
theorem dX6_isLetter_3 : decode cX6_isLetter 3 = .ok (.if_icmp .lt 13, 3) := by decide +kernel
theorem dX6_isLetter_6 : decode cX6_isLetter 6 = .ok (.iload_n 0, 1) := by decide +kernel
theorem dX6_isLetter_7 : decode cX6_isLetter 7 = .ok (.bipush 122, 2) := by decide +kernel
theorem dX6_isLetter_9 : decode cX6_isLetter 9 = .ok (.if_icmp .gt 7, 3) := by decide +kernel
theorem dX6_isLetter_12 : decode cX6_isLetter 12 = .ok (.iconst 1, 1) := by decide +kernel
theorem dX6_isLetter_13 : decode cX6_isLetter 13 = .ok (.goto 4, 3) := by decide +kernel
theorem dX6_isLetter_16 : decode cX6_isLetter 16 = .ok (.iconst 0, 1) := by decide +kernel
theorem dX6_isLetter_17 : decode cX6_isLetter 17 = .ok (.ireturn, 1) := by decide +kernel
theorem dX6_isDigit_0 : decode cX6_isDigit 0 = .ok (.iload_n 0, 1) := by decide +kernel
theorem dX6_isDigit_1 : decode cX6_isDigit 1 = .ok (.bipush 48, 2) := by decide +kernel
theorem dX6_isDigit_3 : decode cX6_isDigit 3 = .ok (.if_icmp .lt 13, 3) := by decide +kernel
theorem dX6_isDigit_6 : decode cX6_isDigit 6 = .ok (.iload_n 0, 1) := by decide +kernel
theorem dX6_isDigit_7 : decode cX6_isDigit 7 = .ok (.bipush 57, 2) := by decide +kernel
theorem dX6_isDigit_9 : decode cX6_isDigit 9 = .ok (.if_icmp .gt 7, 3) := by decide +kernel
theorem dX6_isDigit_12 : decode cX6_isDigit 12 = .ok (.iconst 1, 1) := by decide +kernel
theorem dX6_isDigit_13 : decode cX6_isDigit 13 = .ok (.goto 4, 3) := by decide +kernel
theorem dX6_isDigit_16 : decode cX6_isDigit 16 = .ok (.iconst 0, 1) := by decide +kernel
theorem dX6_isDigit_17 : decode cX6_isDigit 17 = .ok (.ireturn, 1) := by decide +kernel
theorem dX6_isSign_0 : decode cX6_isSign 0 = .ok (.iload_n 0, 1) := by decide +kernel
theorem dX6_isSign_1 : decode cX6_isSign 1 = .ok (.lookupswitch 109 #[(40, 107), (41, 107), (42, 107), (43, 107), (45, 107), (58, 107), (59, 107), (60, 107), (61, 107), (62, 107), (91, 107), (93, 107)], 107) := by decide +kernel
theorem dX6_isSign_108 : decode cX6_isSign 108 = .ok (.iconst 1, 1) := by decide +kernel
theorem dX6_isSign_109 : decode cX6_isSign 109 = .ok (.ireturn, 1) := by decide +kernel
theorem dX6_isSign_110 : decode cX6_isSign 110 = .ok (.iconst 0, 1) := by decide +kernel
theorem dX6_isSign_111 : decode cX6_isSign 111 = .ok (.ireturn, 1) := by decide +kernel
theorem dX6_endOfLetters_0 : decode cX6_endOfLetters 0 = .ok (.iload_n 1, 1) := by decide +kernel
theorem dX6_endOfLetters_1 : decode cX6_endOfLetters 1 = .ok (.istore_n 2, 1) := by decide +kernel
theorem dX6_endOfLetters_2 : decode cX6_endOfLetters 2 = .ok (.iload_n 2, 1) := by decide +kernel
theorem dX6_endOfLetters_3 : decode cX6_endOfLetters 3 = .ok (.aload_n 0, 1) := by decide +kernel
theorem dX6_endOfLetters_4 : decode cX6_endOfLetters 4 = .ok (.getfield 38, 3) := by decide +kernel
theorem dX6_endOfLetters_7 : decode cX6_endOfLetters 7 = .ok (.if_icmp .ge 20, 3) := by decide +kernel
theorem dX6_endOfLetters_10 : decode cX6_endOfLetters 10 = .ok (.aload_n 0, 1) := by decide +kernel
theorem dX6_endOfLetters_11 : decode cX6_endOfLetters 11 = .ok (.iload_n 2, 1) := by decide +kernel
theorem dX6_endOfLetters_12 : decode cX6_endOfLetters 12 = .ok (.invokevirtual 78, 3) := by decide +kernel
theorem dX6_endOfLetters_15 : decode cX6_endOfLetters 15 = .ok (.invokestatic 82, 3) := by decide +kernel
theorem dX6_endOfLetters_18 : decode cX6_endOfLetters 18 = .ok (.ifCond .eq 9, 3) := by decide +kernel
theorem dX6_endOfLetters_21 : decode cX6_endOfLetters 21 = .ok (.iinc 2 1, 3) := by decide +kernel
theorem dX6_endOfLetters_24 : decode cX6_endOfLetters 24 = .ok (.goto (-22), 3) := by decide +kernel
theorem dX6_endOfLetters_27 : decode cX6_endOfLetters 27 = .ok (.iload_n 2, 1) := by decide +kernel
theorem dX6_endOfLetters_28 : decode cX6_endOfLetters 28 = .ok (.ireturn, 1) := by decide +kernel
theorem dX6_endOfDigits_0 : decode cX6_endOfDigits 0 = .ok (.iload_n 1, 1) := by decide +kernel
theorem dX6_endOfDigits_1 : decode cX6_endOfDigits 1 = .ok (.istore_n 2, 1) := by decide +kernel
theorem dX6_endOfDigits_2 : decode cX6_endOfDigits 2 = .ok (.iload_n 2, 1) := by decide +kernel
theorem dX6_endOfDigits_3 : decode cX6_endOfDigits 3 = .ok (.aload_n 0, 1) := by decide +kernel
theorem dX6_endOfDigits_4 : decode cX6_endOfDigits 4 = .ok (.getfield 38, 3) := by decide +kernel
theorem dX6_endOfDigits_7 : decode cX6_endOfDigits 7 = .ok (.if_icmp .ge 20, 3) := by decide +kernel
theorem dX6_endOfDigits_10 : decode cX6_endOfDigits 10 = .ok (.aload_n 0, 1) := by decide +kernel
theorem dX6_endOfDigits_11 : decode cX6_endOfDigits 11 = .ok (.iload_n 2, 1) := by decide +kernel
theorem dX6_endOfDigits_12 : decode cX6_endOfDigits 12 = .ok (.invokevirtual 78, 3) := by decide +kernel
theorem dX6_endOfDigits_15 : decode cX6_endOfDigits 15 = .ok (.invokestatic 95, 3) := by decide +kernel
theorem dX6_endOfDigits_18 : decode cX6_endOfDigits 18 = .ok (.ifCond .eq 9, 3) := by decide +kernel
theorem dX6_endOfDigits_21 : decode cX6_endOfDigits 21 = .ok (.iinc 2 1, 3) := by decide +kernel
theorem dX6_endOfDigits_24 : decode cX6_endOfDigits 24 = .ok (.goto (-22), 3) := by decide +kernel
theorem dX6_endOfDigits_27 : decode cX6_endOfDigits 27 = .ok (.iload_n 2, 1) := by decide +kernel
theorem dX6_endOfDigits_28 : decode cX6_endOfDigits 28 = .ok (.ireturn, 1) := by decide +kernel
theorem dX6_numberAt_0 : decode cX6_numberAt 0 = .ok (.iconst 0, 1) := by decide +kernel
theorem dX6_numberAt_1 : decode cX6_numberAt 1 = .ok (.istore_n 3, 1) := by decide +kernel
theorem dX6_numberAt_2 : decode cX6_numberAt 2 = .ok (.iload_n 1, 1) := by decide +kernel
theorem dX6_numberAt_3 : decode cX6_numberAt 3 = .ok (.istore 4, 2) := by decide +kernel
theorem dX6_numberAt_5 : decode cX6_numberAt 5 = .ok (.iload 4, 2) := by decide +kernel
theorem dX6_numberAt_7 : decode cX6_numberAt 7 = .ok (.iload_n 2, 1) := by decide +kernel
theorem dX6_numberAt_8 : decode cX6_numberAt 8 = .ok (.if_icmp .ge 32, 3) := by decide +kernel
theorem dX6_numberAt_11 : decode cX6_numberAt 11 = .ok (.iload 4, 2) := by decide +kernel
theorem dX6_numberAt_13 : decode cX6_numberAt 13 = .ok (.iload_n 1, 1) := by decide +kernel
theorem dX6_numberAt_14 : decode cX6_numberAt 14 = .ok (.iconst 3, 1) := by decide +kernel
theorem dX6_numberAt_15 : decode cX6_numberAt 15 = .ok (.iadd, 1) := by decide +kernel
theorem dX6_numberAt_16 : decode cX6_numberAt 16 = .ok (.if_icmp .ge 24, 3) := by decide +kernel
theorem dX6_numberAt_19 : decode cX6_numberAt 19 = .ok (.bipush 10, 2) := by decide +kernel
theorem dX6_numberAt_21 : decode cX6_numberAt 21 = .ok (.iload_n 3, 1) := by decide +kernel
theorem dX6_numberAt_22 : decode cX6_numberAt 22 = .ok (.imul, 1) := by decide +kernel
theorem dX6_numberAt_23 : decode cX6_numberAt 23 = .ok (.aload_n 0, 1) := by decide +kernel
theorem dX6_numberAt_24 : decode cX6_numberAt 24 = .ok (.iload 4, 2) := by decide +kernel
theorem dX6_numberAt_26 : decode cX6_numberAt 26 = .ok (.invokevirtual 78, 3) := by decide +kernel
theorem dX6_numberAt_29 : decode cX6_numberAt 29 = .ok (.iadd, 1) := by decide +kernel
theorem dX6_numberAt_30 : decode cX6_numberAt 30 = .ok (.bipush 48, 2) := by decide +kernel
theorem dX6_numberAt_32 : decode cX6_numberAt 32 = .ok (.isub, 1) := by decide +kernel
theorem dX6_numberAt_33 : decode cX6_numberAt 33 = .ok (.istore_n 3, 1) := by decide +kernel
theorem dX6_numberAt_34 : decode cX6_numberAt 34 = .ok (.iinc 4 1, 3) := by decide +kernel
theorem dX6_numberAt_37 : decode cX6_numberAt 37 = .ok (.goto (-32), 3) := by decide +kernel
theorem dX6_numberAt_40 : decode cX6_numberAt 40 = .ok (.iload_n 3, 1) := by decide +kernel
theorem dX6_numberAt_41 : decode cX6_numberAt 41 = .ok (.ireturn, 1) := by decide +kernel
theorem dX6_wordAt_0 : decode cX6_wordAt 0 = .ok (.iconst 0, 1) := by decide +kernel
theorem dX6_wordAt_1 : decode cX6_wordAt 1 = .ok (.istore_n 3, 1) := by decide +kernel
theorem dX6_wordAt_2 : decode cX6_wordAt 2 = .ok (.iconst 0, 1) := by decide +kernel
theorem dX6_wordAt_3 : decode cX6_wordAt 3 = .ok (.istore 4, 2) := by decide +kernel
theorem dX6_wordAt_5 : decode cX6_wordAt 5 = .ok (.iconst 1, 1) := by decide +kernel
theorem dX6_wordAt_6 : decode cX6_wordAt 6 = .ok (.istore 5, 2) := by decide +kernel
theorem dX6_wordAt_8 : decode cX6_wordAt 8 = .ok (.iconst 0, 1) := by decide +kernel
theorem dX6_wordAt_9 : decode cX6_wordAt 9 = .ok (.istore 6, 2) := by decide +kernel
theorem dX6_wordAt_11 : decode cX6_wordAt 11 = .ok (.iload 6, 2) := by decide +kernel
theorem dX6_wordAt_13 : decode cX6_wordAt 13 = .ok (.ldc 107, 2) := by decide +kernel
theorem dX6_wordAt_15 : decode cX6_wordAt 15 = .ok (.invokevirtual 109, 3) := by decide +kernel
theorem dX6_wordAt_18 : decode cX6_wordAt 18 = .ok (.if_icmp .ge 91, 3) := by decide +kernel
theorem dX6_wordAt_21 : decode cX6_wordAt 21 = .ok (.ldc 107, 2) := by decide +kernel
theorem dX6_wordAt_23 : decode cX6_wordAt 23 = .ok (.iload 6, 2) := by decide +kernel
theorem dX6_wordAt_25 : decode cX6_wordAt 25 = .ok (.invokevirtual 113, 3) := by decide +kernel
theorem dX6_wordAt_28 : decode cX6_wordAt 28 = .ok (.istore 7, 2) := by decide +kernel
theorem dX6_wordAt_30 : decode cX6_wordAt 30 = .ok (.iload 7, 2) := by decide +kernel
theorem dX6_wordAt_32 : decode cX6_wordAt 32 = .ok (.bipush 32, 2) := by decide +kernel
theorem dX6_wordAt_34 : decode cX6_wordAt 34 = .ok (.if_icmp .ne 34, 3) := by decide +kernel
theorem dX6_wordAt_37 : decode cX6_wordAt 37 = .ok (.iload 5, 2) := by decide +kernel
theorem dX6_wordAt_39 : decode cX6_wordAt 39 = .ok (.ifCond .eq 17, 3) := by decide +kernel
theorem dX6_wordAt_42 : decode cX6_wordAt 42 = .ok (.iload 4, 2) := by decide +kernel
theorem dX6_wordAt_44 : decode cX6_wordAt 44 = .ok (.iload_n 2, 1) := by decide +kernel
theorem dX6_wordAt_45 : decode cX6_wordAt 45 = .ok (.iload_n 1, 1) := by decide +kernel
theorem dX6_wordAt_46 : decode cX6_wordAt 46 = .ok (.isub, 1) := by decide +kernel
theorem dX6_wordAt_47 : decode cX6_wordAt 47 = .ok (.if_icmp .ne 9, 3) := by decide +kernel
theorem dX6_wordAt_50 : decode cX6_wordAt 50 = .ok (.sipush 200, 3) := by decide +kernel
theorem dX6_wordAt_53 : decode cX6_wordAt 53 = .ok (.iload_n 3, 1) := by decide +kernel
theorem dX6_wordAt_54 : decode cX6_wordAt 54 = .ok (.iadd, 1) := by decide +kernel
theorem dX6_wordAt_55 : decode cX6_wordAt 55 = .ok (.ireturn, 1) := by decide +kernel
theorem dX6_wordAt_56 : decode cX6_wordAt 56 = .ok (.iinc 3 1, 3) := by decide +kernel
theorem dX6_wordAt_59 : decode cX6_wordAt 59 = .ok (.iconst 0, 1) := by decide +kernel
theorem dX6_wordAt_60 : decode cX6_wordAt 60 = .ok (.istore 4, 2) := by decide +kernel
theorem dX6_wordAt_62 : decode cX6_wordAt 62 = .ok (.iconst 1, 1) := by decide +kernel
theorem dX6_wordAt_63 : decode cX6_wordAt 63 = .ok (.istore 5, 2) := by decide +kernel
theorem dX6_wordAt_65 : decode cX6_wordAt 65 = .ok (.goto 38, 3) := by decide +kernel
theorem dX6_wordAt_68 : decode cX6_wordAt 68 = .ok (.iload 5, 2) := by decide +kernel
theorem dX6_wordAt_70 : decode cX6_wordAt 70 = .ok (.ifCond .eq 30, 3) := by decide +kernel
theorem dX6_wordAt_73 : decode cX6_wordAt 73 = .ok (.iload 4, 2) := by decide +kernel
theorem dX6_wordAt_75 : decode cX6_wordAt 75 = .ok (.iload_n 2, 1) := by decide +kernel
theorem dX6_wordAt_76 : decode cX6_wordAt 76 = .ok (.iload_n 1, 1) := by decide +kernel
theorem dX6_wordAt_77 : decode cX6_wordAt 77 = .ok (.isub, 1) := by decide +kernel
theorem dX6_wordAt_78 : decode cX6_wordAt 78 = .ok (.if_icmp .ge 22, 3) := by decide +kernel
theorem dX6_wordAt_81 : decode cX6_wordAt 81 = .ok (.aload_n 0, 1) := by decide +kernel
theorem dX6_wordAt_82 : decode cX6_wordAt 82 = .ok (.iload_n 1, 1) := by decide +kernel
theorem dX6_wordAt_83 : decode cX6_wordAt 83 = .ok (.iload 4, 2) := by decide +kernel
theorem dX6_wordAt_85 : decode cX6_wordAt 85 = .ok (.iadd, 1) := by decide +kernel
theorem dX6_wordAt_86 : decode cX6_wordAt 86 = .ok (.invokevirtual 78, 3) := by decide +kernel
theorem dX6_wordAt_89 : decode cX6_wordAt 89 = .ok (.iload 7, 2) := by decide +kernel
theorem dX6_wordAt_91 : decode cX6_wordAt 91 = .ok (.if_icmp .ne 9, 3) := by decide +kernel
theorem dX6_wordAt_94 : decode cX6_wordAt 94 = .ok (.iinc 4 1, 3) := by decide +kernel
theorem dX6_wordAt_97 : decode cX6_wordAt 97 = .ok (.goto 6, 3) := by decide +kernel
theorem dX6_wordAt_100 : decode cX6_wordAt 100 = .ok (.iconst 0, 1) := by decide +kernel
theorem dX6_wordAt_101 : decode cX6_wordAt 101 = .ok (.istore 5, 2) := by decide +kernel
theorem dX6_wordAt_103 : decode cX6_wordAt 103 = .ok (.iinc 6 1, 3) := by decide +kernel
theorem dX6_wordAt_106 : decode cX6_wordAt 106 = .ok (.goto (-95), 3) := by decide +kernel
theorem dX6_wordAt_109 : decode cX6_wordAt 109 = .ok (.iconst 4, 1) := by decide +kernel
theorem dX6_wordAt_110 : decode cX6_wordAt 110 = .ok (.ireturn, 1) := by decide +kernel
theorem dX6_kind_0 : decode cX6_kind 0 = .ok (.aload_n 0, 1) := by decide +kernel
theorem dX6_kind_1 : decode cX6_kind 1 = .ok (.getfield 31, 3) := by decide +kernel
theorem dX6_kind_4 : decode cX6_kind 4 = .ok (.aload_n 0, 1) := by decide +kernel
theorem dX6_kind_5 : decode cX6_kind 5 = .ok (.getfield 28, 3) := by decide +kernel
theorem dX6_kind_8 : decode cX6_kind 8 = .ok (.if_icmp .ge 15, 3) := by decide +kernel
theorem dX6_kind_11 : decode cX6_kind 11 = .ok (.aload_n 0, 1) := by decide +kernel
theorem dX6_kind_12 : decode cX6_kind 12 = .ok (.getfield 18, 3) := by decide +kernel
theorem dX6_kind_15 : decode cX6_kind 15 = .ok (.aload_n 0, 1) := by decide +kernel
theorem dX6_kind_16 : decode cX6_kind 16 = .ok (.getfield 31, 3) := by decide +kernel
theorem dX6_kind_19 : decode cX6_kind 19 = .ok (.iaload, 1) := by decide +kernel
theorem dX6_kind_20 : decode cX6_kind 20 = .ok (.goto 4, 3) := by decide +kernel
theorem dX6_kind_23 : decode cX6_kind 23 = .ok (.iconst 1, 1) := by decide +kernel
theorem dX6_kind_24 : decode cX6_kind 24 = .ok (.ireturn, 1) := by decide +kernel
theorem dX6_faulty_0 : decode cX6_faulty 0 = .ok (.aload_n 0, 1) := by decide +kernel
theorem dX6_faulty_1 : decode cX6_faulty 1 = .ok (.iload_n 1, 1) := by decide +kernel
theorem dX6_faulty_2 : decode cX6_faulty 2 = .ok (.putfield 11, 3) := by decide +kernel
theorem dX6_faulty_5 : decode cX6_faulty 5 = .ok (.aload_n 0, 1) := by decide +kernel
theorem dX6_faulty_6 : decode cX6_faulty 6 = .ok (.aload_n 0, 1) := by decide +kernel
theorem dX6_faulty_7 : decode cX6_faulty 7 = .ok (.getfield 31, 3) := by decide +kernel
theorem dX6_faulty_10 : decode cX6_faulty 10 = .ok (.aload_n 0, 1) := by decide +kernel
theorem dX6_faulty_11 : decode cX6_faulty 11 = .ok (.getfield 28, 3) := by decide +kernel
theorem dX6_faulty_14 : decode cX6_faulty 14 = .ok (.if_icmp .ge 15, 3) := by decide +kernel
theorem dX6_faulty_17 : decode cX6_faulty 17 = .ok (.aload_n 0, 1) := by decide +kernel
theorem dX6_faulty_18 : decode cX6_faulty 18 = .ok (.getfield 25, 3) := by decide +kernel
theorem dX6_faulty_21 : decode cX6_faulty 21 = .ok (.aload_n 0, 1) := by decide +kernel
theorem dX6_faulty_22 : decode cX6_faulty 22 = .ok (.getfield 31, 3) := by decide +kernel
theorem dX6_faulty_25 : decode cX6_faulty 25 = .ok (.iaload, 1) := by decide +kernel
theorem dX6_faulty_26 : decode cX6_faulty 26 = .ok (.goto 7, 3) := by decide +kernel
theorem dX6_faulty_29 : decode cX6_faulty 29 = .ok (.aload_n 0, 1) := by decide +kernel
theorem dX6_faulty_30 : decode cX6_faulty 30 = .ok (.getfield 38, 3) := by decide +kernel
theorem dX6_faulty_33 : decode cX6_faulty 33 = .ok (.putfield 15, 3) := by decide +kernel
theorem dX6_faulty_36 : decode cX6_faulty 36 = .ok (.iconst 0, 1) := by decide +kernel
theorem dX6_faulty_37 : decode cX6_faulty 37 = .ok (.ireturn, 1) := by decide +kernel
theorem dX6_cannotStand_0 : decode cX6_cannotStand 0 = .ok (.aload_n 0, 1) := by decide +kernel
theorem dX6_cannotStand_1 : decode cX6_cannotStand 1 = .ok (.aload_n 0, 1) := by decide +kernel
theorem dX6_cannotStand_2 : decode cX6_cannotStand 2 = .ok (.invokevirtual 70, 3) := by decide +kernel
theorem dX6_cannotStand_5 : decode cX6_cannotStand 5 = .ok (.iconst 2, 1) := by decide +kernel
theorem dX6_cannotStand_6 : decode cX6_cannotStand 6 = .ok (.if_icmp .ne 7, 3) := by decide +kernel
theorem dX6_cannotStand_9 : decode cX6_cannotStand 9 = .ok (.iconst 1, 1) := by decide +kernel
theorem dX6_cannotStand_10 : decode cX6_cannotStand 10 = .ok (.goto 4, 3) := by decide +kernel
theorem dX6_cannotStand_13 : decode cX6_cannotStand 13 = .ok (.iconst 2, 1) := by decide +kernel
theorem dX6_cannotStand_14 : decode cX6_cannotStand 14 = .ok (.invokevirtual 117, 3) := by decide +kernel
theorem dX6_cannotStand_17 : decode cX6_cannotStand 17 = .ok (.ireturn, 1) := by decide +kernel
theorem dX6_take_0 : decode cX6_take 0 = .ok (.aload_n 0, 1) := by decide +kernel
theorem dX6_take_1 : decode cX6_take 1 = .ok (.invokevirtual 70, 3) := by decide +kernel
theorem dX6_take_4 : decode cX6_take 4 = .ok (.iload_n 1, 1) := by decide +kernel
theorem dX6_take_5 : decode cX6_take 5 = .ok (.if_icmp .eq 8, 3) := by decide +kernel
theorem dX6_take_8 : decode cX6_take 8 = .ok (.aload_n 0, 1) := by decide +kernel
theorem dX6_take_9 : decode cX6_take 9 = .ok (.invokevirtual 120, 3) := by decide +kernel
theorem dX6_take_12 : decode cX6_take 12 = .ok (.ireturn, 1) := by decide +kernel
theorem dX6_take_13 : decode cX6_take 13 = .ok (.aload_n 0, 1) := by decide +kernel
theorem dX6_take_14 : decode cX6_take 14 = .ok (.dup, 1) := by decide +kernel
theorem dX6_take_15 : decode cX6_take 15 = .ok (.getfield 31, 3) := by decide +kernel
theorem dX6_take_18 : decode cX6_take 18 = .ok (.iconst 1, 1) := by decide +kernel
theorem dX6_take_19 : decode cX6_take 19 = .ok (.iadd, 1) := by decide +kernel
theorem dX6_take_20 : decode cX6_take 20 = .ok (.putfield 31, 3) := by decide +kernel
theorem dX6_take_23 : decode cX6_take 23 = .ok (.iconst 1, 1) := by decide +kernel
theorem dX6_take_24 : decode cX6_take 24 = .ok (.ireturn, 1) := by decide +kernel
theorem dX6_takeNumber_0 : decode cX6_takeNumber 0 = .ok (.aload_n 0, 1) := by decide +kernel
theorem dX6_takeNumber_1 : decode cX6_takeNumber 1 = .ok (.invokevirtual 70, 3) := by decide +kernel
theorem dX6_takeNumber_4 : decode cX6_takeNumber 4 = .ok (.iconst 3, 1) := by decide +kernel
theorem dX6_takeNumber_5 : decode cX6_takeNumber 5 = .ok (.if_icmp .eq 8, 3) := by decide +kernel
theorem dX6_takeNumber_8 : decode cX6_takeNumber 8 = .ok (.aload_n 0, 1) := by decide +kernel
theorem dX6_takeNumber_9 : decode cX6_takeNumber 9 = .ok (.invokevirtual 120, 3) := by decide +kernel
theorem dX6_takeNumber_12 : decode cX6_takeNumber 12 = .ok (.ireturn, 1) := by decide +kernel
theorem dX6_takeNumber_13 : decode cX6_takeNumber 13 = .ok (.aload_n 0, 1) := by decide +kernel
theorem dX6_takeNumber_14 : decode cX6_takeNumber 14 = .ok (.getfield 22, 3) := by decide +kernel
theorem dX6_takeNumber_17 : decode cX6_takeNumber 17 = .ok (.aload_n 0, 1) := by decide +kernel
theorem dX6_takeNumber_18 : decode cX6_takeNumber 18 = .ok (.getfield 31, 3) := by decide +kernel
theorem dX6_takeNumber_21 : decode cX6_takeNumber 21 = .ok (.iaload, 1) := by decide +kernel
theorem dX6_takeNumber_22 : decode cX6_takeNumber 22 = .ok (.iload_n 1, 1) := by decide +kernel
theorem dX6_takeNumber_23 : decode cX6_takeNumber 23 = .ok (.if_icmp .le 9, 3) := by decide +kernel
theorem dX6_takeNumber_26 : decode cX6_takeNumber 26 = .ok (.aload_n 0, 1) := by decide +kernel
theorem dX6_takeNumber_27 : decode cX6_takeNumber 27 = .ok (.iconst 3, 1) := by decide +kernel
theorem dX6_takeNumber_28 : decode cX6_takeNumber 28 = .ok (.invokevirtual 117, 3) := by decide +kernel
theorem dX6_takeNumber_31 : decode cX6_takeNumber 31 = .ok (.ireturn, 1) := by decide +kernel
theorem dX6_takeNumber_32 : decode cX6_takeNumber 32 = .ok (.aload_n 0, 1) := by decide +kernel
theorem dX6_takeNumber_33 : decode cX6_takeNumber 33 = .ok (.dup, 1) := by decide +kernel
theorem dX6_takeNumber_34 : decode cX6_takeNumber 34 = .ok (.getfield 31, 3) := by decide +kernel
theorem dX6_takeNumber_37 : decode cX6_takeNumber 37 = .ok (.iconst 1, 1) := by decide +kernel
theorem dX6_takeNumber_38 : decode cX6_takeNumber 38 = .ok (.iadd, 1) := by decide +kernel
theorem dX6_takeNumber_39 : decode cX6_takeNumber 39 = .ok (.putfield 31, 3) := by decide +kernel
theorem dX6_takeNumber_42 : decode cX6_takeNumber 42 = .ok (.iconst 1, 1) := by decide +kernel
theorem dX6_takeNumber_43 : decode cX6_takeNumber 43 = .ok (.ireturn, 1) := by decide +kernel
theorem dX6_taken_0 : decode cX6_taken 0 = .ok (.aload_n 0, 1) := by decide +kernel
theorem dX6_taken_1 : decode cX6_taken 1 = .ok (.getfield 31, 3) := by decide +kernel
theorem dX6_taken_4 : decode cX6_taken 4 = .ok (.ifCond .le 28, 3) := by decide +kernel
theorem dX6_taken_7 : decode cX6_taken 7 = .ok (.aload_n 0, 1) := by decide +kernel
theorem dX6_taken_8 : decode cX6_taken 8 = .ok (.getfield 31, 3) := by decide +kernel
theorem dX6_taken_11 : decode cX6_taken 11 = .ok (.aload_n 0, 1) := by decide +kernel
theorem dX6_taken_12 : decode cX6_taken 12 = .ok (.getfield 28, 3) := by decide +kernel
theorem dX6_taken_15 : decode cX6_taken 15 = .ok (.if_icmp .gt 17, 3) := by decide +kernel
theorem dX6_taken_18 : decode cX6_taken 18 = .ok (.aload_n 0, 1) := by decide +kernel
theorem dX6_taken_19 : decode cX6_taken 19 = .ok (.getfield 22, 3) := by decide +kernel
theorem dX6_taken_22 : decode cX6_taken 22 = .ok (.aload_n 0, 1) := by decide +kernel
theorem dX6_taken_23 : decode cX6_taken 23 = .ok (.getfield 31, 3) := by decide +kernel
theorem dX6_taken_26 : decode cX6_taken 26 = .ok (.iconst 1, 1) := by decide +kernel
theorem dX6_taken_27 : decode cX6_taken 27 = .ok (.isub, 1) := by decide +kernel
theorem dX6_taken_28 : decode cX6_taken 28 = .ok (.iaload, 1) := by decide +kernel
theorem dX6_taken_29 : decode cX6_taken 29 = .ok (.goto 4, 3) := by decide +kernel
theorem dX6_taken_32 : decode cX6_taken 32 = .ok (.iconst 0, 1) := by decide +kernel
theorem dX6_taken_33 : decode cX6_taken 33 = .ok (.ireturn, 1) := by decide +kernel
theorem dX6_readLine_0 : decode cX6_readLine 0 = .ok (.aload_n 0, 1) := by decide +kernel
theorem dX6_readLine_1 : decode cX6_readLine 1 = .ok (.invokevirtual 70, 3) := by decide +kernel
theorem dX6_readLine_4 : decode cX6_readLine 4 = .ok (.tableswitch 130 202 212 #[60, 130, 130, 130, 130, 130, 130, 65, 70, 83, 96], 60) := by decide +kernel
theorem dX6_readLine_64 : decode cX6_readLine 64 = .ok (.aload_n 0, 1) := by decide +kernel
theorem dX6_readLine_65 : decode cX6_readLine 65 = .ok (.invokevirtual 123, 3) := by decide +kernel
theorem dX6_readLine_68 : decode cX6_readLine 68 = .ok (.ireturn, 1) := by decide +kernel
theorem dX6_readLine_69 : decode cX6_readLine 69 = .ok (.aload_n 0, 1) := by decide +kernel
theorem dX6_readLine_70 : decode cX6_readLine 70 = .ok (.invokevirtual 126, 3) := by decide +kernel
theorem dX6_readLine_73 : decode cX6_readLine 73 = .ok (.ireturn, 1) := by decide +kernel
theorem dX6_readLine_74 : decode cX6_readLine 74 = .ok (.aload_n 0, 1) := by decide +kernel
theorem dX6_readLine_75 : decode cX6_readLine 75 = .ok (.aload_n 0, 1) := by decide +kernel
theorem dX6_readLine_76 : decode cX6_readLine 76 = .ok (.getfield 41, 3) := by decide +kernel
theorem dX6_readLine_79 : decode cX6_readLine 79 = .ok (.getfield 129, 3) := by decide +kernel
theorem dX6_readLine_82 : decode cX6_readLine 82 = .ok (.iconst 2, 1) := by decide +kernel
theorem dX6_readLine_83 : decode cX6_readLine 83 = .ok (.invokevirtual 132, 3) := by decide +kernel
theorem dX6_readLine_86 : decode cX6_readLine 86 = .ok (.ireturn, 1) := by decide +kernel
theorem dX6_readLine_87 : decode cX6_readLine 87 = .ok (.aload_n 0, 1) := by decide +kernel
theorem dX6_readLine_88 : decode cX6_readLine 88 = .ok (.aload_n 0, 1) := by decide +kernel
theorem dX6_readLine_89 : decode cX6_readLine 89 = .ok (.getfield 41, 3) := by decide +kernel
theorem dX6_readLine_92 : decode cX6_readLine 92 = .ok (.getfield 136, 3) := by decide +kernel
theorem dX6_readLine_95 : decode cX6_readLine 95 = .ok (.iconst 0, 1) := by decide +kernel
theorem dX6_readLine_96 : decode cX6_readLine 96 = .ok (.invokevirtual 132, 3) := by decide +kernel
theorem dX6_readLine_99 : decode cX6_readLine 99 = .ok (.ireturn, 1) := by decide +kernel
theorem dX6_readLine_100 : decode cX6_readLine 100 = .ok (.aload_n 0, 1) := by decide +kernel
theorem dX6_readLine_101 : decode cX6_readLine 101 = .ok (.dup, 1) := by decide +kernel
theorem dX6_readLine_102 : decode cX6_readLine 102 = .ok (.getfield 31, 3) := by decide +kernel
theorem dX6_readLine_105 : decode cX6_readLine 105 = .ok (.iconst 1, 1) := by decide +kernel
theorem dX6_readLine_106 : decode cX6_readLine 106 = .ok (.iadd, 1) := by decide +kernel
theorem dX6_readLine_107 : decode cX6_readLine 107 = .ok (.putfield 31, 3) := by decide +kernel
theorem dX6_readLine_110 : decode cX6_readLine 110 = .ok (.aload_n 0, 1) := by decide +kernel
theorem dX6_readLine_111 : decode cX6_readLine 111 = .ok (.bipush 10, 2) := by decide +kernel
theorem dX6_readLine_113 : decode cX6_readLine 113 = .ok (.invokevirtual 139, 3) := by decide +kernel
theorem dX6_readLine_116 : decode cX6_readLine 116 = .ok (.ifCond .ne 5, 3) := by decide +kernel
theorem dX6_readLine_119 : decode cX6_readLine 119 = .ok (.iconst 0, 1) := by decide +kernel
theorem dX6_readLine_120 : decode cX6_readLine 120 = .ok (.ireturn, 1) := by decide +kernel
theorem dX6_readLine_121 : decode cX6_readLine 121 = .ok (.aload_n 0, 1) := by decide +kernel
theorem dX6_readLine_122 : decode cX6_readLine 122 = .ok (.getfield 41, 3) := by decide +kernel
theorem dX6_readLine_125 : decode cX6_readLine 125 = .ok (.aload_n 0, 1) := by decide +kernel
theorem dX6_readLine_126 : decode cX6_readLine 126 = .ok (.invokevirtual 142, 3) := by decide +kernel
theorem dX6_readLine_129 : decode cX6_readLine 129 = .ok (.putfield 145, 3) := by decide +kernel
theorem dX6_readLine_132 : decode cX6_readLine 132 = .ok (.iconst 1, 1) := by decide +kernel
theorem dX6_readLine_133 : decode cX6_readLine 133 = .ok (.ireturn, 1) := by decide +kernel
theorem dX6_readLine_134 : decode cX6_readLine 134 = .ok (.aload_n 0, 1) := by decide +kernel
theorem dX6_readLine_135 : decode cX6_readLine 135 = .ok (.invokevirtual 120, 3) := by decide +kernel
theorem dX6_readLine_138 : decode cX6_readLine 138 = .ok (.ireturn, 1) := by decide +kernel
theorem dX6_readPiece_0 : decode cX6_readPiece 0 = .ok (.aload_n 0, 1) := by decide +kernel
theorem dX6_readPiece_1 : decode cX6_readPiece 1 = .ok (.getfield 41, 3) := by decide +kernel
theorem dX6_readPiece_4 : decode cX6_readPiece 4 = .ok (.getfield 148, 3) := by decide +kernel
theorem dX6_readPiece_7 : decode cX6_readPiece 7 = .ok (.iconst 4, 1) := by decide +kernel
theorem dX6_readPiece_8 : decode cX6_readPiece 8 = .ok (.if_icmp .lt 9, 3) := by decide +kernel
theorem dX6_readPiece_11 : decode cX6_readPiece 11 = .ok (.aload_n 0, 1) := by decide +kernel
theorem dX6_readPiece_12 : decode cX6_readPiece 12 = .ok (.iconst 4, 1) := by decide +kernel
theorem dX6_readPiece_13 : decode cX6_readPiece 13 = .ok (.invokevirtual 117, 3) := by decide +kernel
theorem dX6_readPiece_16 : decode cX6_readPiece 16 = .ok (.ireturn, 1) := by decide +kernel
theorem dX6_readPiece_17 : decode cX6_readPiece 17 = .ok (.aload_n 0, 1) := by decide +kernel
theorem dX6_readPiece_18 : decode cX6_readPiece 18 = .ok (.dup, 1) := by decide +kernel
theorem dX6_readPiece_19 : decode cX6_readPiece 19 = .ok (.getfield 31, 3) := by decide +kernel
theorem dX6_readPiece_22 : decode cX6_readPiece 22 = .ok (.iconst 1, 1) := by decide +kernel
theorem dX6_readPiece_23 : decode cX6_readPiece 23 = .ok (.iadd, 1) := by decide +kernel
theorem dX6_readPiece_24 : decode cX6_readPiece 24 = .ok (.putfield 31, 3) := by decide +kernel
theorem dX6_readPiece_27 : decode cX6_readPiece 27 = .ok (.aload_n 0, 1) := by decide +kernel
theorem dX6_readPiece_28 : decode cX6_readPiece 28 = .ok (.getfield 41, 3) := by decide +kernel
theorem dX6_readPiece_31 : decode cX6_readPiece 31 = .ok (.dup, 1) := by decide +kernel
theorem dX6_readPiece_32 : decode cX6_readPiece 32 = .ok (.getfield 148, 3) := by decide +kernel
theorem dX6_readPiece_35 : decode cX6_readPiece 35 = .ok (.iconst 1, 1) := by decide +kernel
theorem dX6_readPiece_36 : decode cX6_readPiece 36 = .ok (.iadd, 1) := by decide +kernel
theorem dX6_readPiece_37 : decode cX6_readPiece 37 = .ok (.putfield 148, 3) := by decide +kernel
theorem dX6_readPiece_40 : decode cX6_readPiece 40 = .ok (.iconst 0, 1) := by decide +kernel
theorem dX6_readPiece_41 : decode cX6_readPiece 41 = .ok (.istore_n 1, 1) := by decide +kernel
theorem dX6_readPiece_42 : decode cX6_readPiece 42 = .ok (.iload_n 1, 1) := by decide +kernel
theorem dX6_readPiece_43 : decode cX6_readPiece 43 = .ok (.bipush 12, 2) := by decide +kernel
theorem dX6_readPiece_45 : decode cX6_readPiece 45 = .ok (.if_icmp .gt 101, 3) := by decide +kernel
theorem dX6_readPiece_48 : decode cX6_readPiece 48 = .ok (.aload_n 0, 1) := by decide +kernel
theorem dX6_readPiece_49 : decode cX6_readPiece 49 = .ok (.invokevirtual 70, 3) := by decide +kernel
theorem dX6_readPiece_52 : decode cX6_readPiece 52 = .ok (.sipush 213, 3) := by decide +kernel
theorem dX6_readPiece_55 : decode cX6_readPiece 55 = .ok (.if_icmp .eq 13, 3) := by decide +kernel
theorem dX6_readPiece_58 : decode cX6_readPiece 58 = .ok (.aload_n 0, 1) := by decide +kernel
theorem dX6_readPiece_59 : decode cX6_readPiece 59 = .ok (.invokevirtual 70, 3) := by decide +kernel
theorem dX6_readPiece_62 : decode cX6_readPiece 62 = .ok (.sipush 214, 3) := by decide +kernel
theorem dX6_readPiece_65 : decode cX6_readPiece 65 = .ok (.if_icmp .ne 81, 3) := by decide +kernel
theorem dX6_readPiece_68 : decode cX6_readPiece 68 = .ok (.iload_n 1, 1) := by decide +kernel
theorem dX6_readPiece_69 : decode cX6_readPiece 69 = .ok (.bipush 12, 2) := by decide +kernel
theorem dX6_readPiece_71 : decode cX6_readPiece 71 = .ok (.if_icmp .ne 9, 3) := by decide +kernel
theorem dX6_readPiece_74 : decode cX6_readPiece 74 = .ok (.aload_n 0, 1) := by decide +kernel
theorem dX6_readPiece_75 : decode cX6_readPiece 75 = .ok (.iconst 4, 1) := by decide +kernel
theorem dX6_readPiece_76 : decode cX6_readPiece 76 = .ok (.invokevirtual 117, 3) := by decide +kernel
theorem dX6_readPiece_79 : decode cX6_readPiece 79 = .ok (.ireturn, 1) := by decide +kernel
theorem dX6_readPiece_80 : decode cX6_readPiece 80 = .ok (.aload_n 0, 1) := by decide +kernel
theorem dX6_readPiece_81 : decode cX6_readPiece 81 = .ok (.invokevirtual 70, 3) := by decide +kernel
theorem dX6_readPiece_84 : decode cX6_readPiece 84 = .ok (.sipush 213, 3) := by decide +kernel
theorem dX6_readPiece_87 : decode cX6_readPiece 87 = .ok (.if_icmp .ne 7, 3) := by decide +kernel
theorem dX6_readPiece_90 : decode cX6_readPiece 90 = .ok (.iconst 1, 1) := by decide +kernel
theorem dX6_readPiece_91 : decode cX6_readPiece 91 = .ok (.goto 4, 3) := by decide +kernel
theorem dX6_readPiece_94 : decode cX6_readPiece 94 = .ok (.iconst 0, 1) := by decide +kernel
theorem dX6_readPiece_95 : decode cX6_readPiece 95 = .ok (.istore_n 2, 1) := by decide +kernel
theorem dX6_readPiece_96 : decode cX6_readPiece 96 = .ok (.aload_n 0, 1) := by decide +kernel
theorem dX6_readPiece_97 : decode cX6_readPiece 97 = .ok (.dup, 1) := by decide +kernel
theorem dX6_readPiece_98 : decode cX6_readPiece 98 = .ok (.getfield 31, 3) := by decide +kernel
theorem dX6_readPiece_101 : decode cX6_readPiece 101 = .ok (.iconst 1, 1) := by decide +kernel
theorem dX6_readPiece_102 : decode cX6_readPiece 102 = .ok (.iadd, 1) := by decide +kernel
theorem dX6_readPiece_103 : decode cX6_readPiece 103 = .ok (.putfield 31, 3) := by decide +kernel
theorem dX6_readPiece_106 : decode cX6_readPiece 106 = .ok (.aload_n 0, 1) := by decide +kernel
theorem dX6_readPiece_107 : decode cX6_readPiece 107 = .ok (.bipush 9, 2) := by decide +kernel
theorem dX6_readPiece_109 : decode cX6_readPiece 109 = .ok (.invokevirtual 139, 3) := by decide +kernel
theorem dX6_readPiece_112 : decode cX6_readPiece 112 = .ok (.ifCond .ne 5, 3) := by decide +kernel
theorem dX6_readPiece_115 : decode cX6_readPiece 115 = .ok (.iconst 0, 1) := by decide +kernel
theorem dX6_readPiece_116 : decode cX6_readPiece 116 = .ok (.ireturn, 1) := by decide +kernel
theorem dX6_readPiece_117 : decode cX6_readPiece 117 = .ok (.aload_n 0, 1) := by decide +kernel
theorem dX6_readPiece_118 : decode cX6_readPiece 118 = .ok (.getfield 41, 3) := by decide +kernel
theorem dX6_readPiece_121 : decode cX6_readPiece 121 = .ok (.iload_n 2, 1) := by decide +kernel
theorem dX6_readPiece_122 : decode cX6_readPiece 122 = .ok (.ifCond .eq 10, 3) := by decide +kernel
theorem dX6_readPiece_125 : decode cX6_readPiece 125 = .ok (.aload_n 0, 1) := by decide +kernel
theorem dX6_readPiece_126 : decode cX6_readPiece 126 = .ok (.invokevirtual 142, 3) := by decide +kernel
theorem dX6_readPiece_129 : decode cX6_readPiece 129 = .ok (.goto 8, 3) := by decide +kernel
theorem dX6_readPiece_132 : decode cX6_readPiece 132 = .ok (.aload_n 0, 1) := by decide +kernel
theorem dX6_readPiece_133 : decode cX6_readPiece 133 = .ok (.invokevirtual 142, 3) := by decide +kernel
theorem dX6_readPiece_136 : decode cX6_readPiece 136 = .ok (.ineg, 1) := by decide +kernel
theorem dX6_readPiece_137 : decode cX6_readPiece 137 = .ok (.invokevirtual 151, 3) := by decide +kernel
theorem dX6_readPiece_140 : decode cX6_readPiece 140 = .ok (.iinc 1 1, 3) := by decide +kernel
theorem dX6_readPiece_143 : decode cX6_readPiece 143 = .ok (.goto (-101), 3) := by decide +kernel
theorem dX6_readPiece_146 : decode cX6_readPiece 146 = .ok (.iconst 1, 1) := by decide +kernel
theorem dX6_readPiece_147 : decode cX6_readPiece 147 = .ok (.ireturn, 1) := by decide +kernel
theorem dX6_readPlayer_0 : decode cX6_readPlayer 0 = .ok (.aload_n 0, 1) := by decide +kernel
theorem dX6_readPlayer_1 : decode cX6_readPlayer 1 = .ok (.getfield 41, 3) := by decide +kernel
theorem dX6_readPlayer_4 : decode cX6_readPlayer 4 = .ok (.getfield 155, 3) := by decide +kernel
theorem dX6_readPlayer_7 : decode cX6_readPlayer 7 = .ok (.istore_n 1, 1) := by decide +kernel
theorem dX6_readPlayer_8 : decode cX6_readPlayer 8 = .ok (.iload_n 1, 1) := by decide +kernel
theorem dX6_readPlayer_9 : decode cX6_readPlayer 9 = .ok (.iconst 5, 1) := by decide +kernel
theorem dX6_readPlayer_10 : decode cX6_readPlayer 10 = .ok (.if_icmp .lt 9, 3) := by decide +kernel
theorem dX6_readPlayer_13 : decode cX6_readPlayer 13 = .ok (.aload_n 0, 1) := by decide +kernel
theorem dX6_readPlayer_14 : decode cX6_readPlayer 14 = .ok (.iconst 4, 1) := by decide +kernel
theorem dX6_readPlayer_15 : decode cX6_readPlayer 15 = .ok (.invokevirtual 117, 3) := by decide +kernel
theorem dX6_readPlayer_18 : decode cX6_readPlayer 18 = .ok (.ireturn, 1) := by decide +kernel
theorem dX6_readPlayer_19 : decode cX6_readPlayer 19 = .ok (.aload_n 0, 1) := by decide +kernel
theorem dX6_readPlayer_20 : decode cX6_readPlayer 20 = .ok (.dup, 1) := by decide +kernel
theorem dX6_readPlayer_21 : decode cX6_readPlayer 21 = .ok (.getfield 31, 3) := by decide +kernel
theorem dX6_readPlayer_24 : decode cX6_readPlayer 24 = .ok (.iconst 1, 1) := by decide +kernel
theorem dX6_readPlayer_25 : decode cX6_readPlayer 25 = .ok (.iadd, 1) := by decide +kernel
theorem dX6_readPlayer_26 : decode cX6_readPlayer 26 = .ok (.putfield 31, 3) := by decide +kernel
theorem dX6_readPlayer_29 : decode cX6_readPlayer 29 = .ok (.aload_n 0, 1) := by decide +kernel
theorem dX6_readPlayer_30 : decode cX6_readPlayer 30 = .ok (.getfield 41, 3) := by decide +kernel
theorem dX6_readPlayer_33 : decode cX6_readPlayer 33 = .ok (.dup, 1) := by decide +kernel
theorem dX6_readPlayer_34 : decode cX6_readPlayer 34 = .ok (.getfield 155, 3) := by decide +kernel
theorem dX6_readPlayer_37 : decode cX6_readPlayer 37 = .ok (.iconst 1, 1) := by decide +kernel
theorem dX6_readPlayer_38 : decode cX6_readPlayer 38 = .ok (.iadd, 1) := by decide +kernel
theorem dX6_readPlayer_39 : decode cX6_readPlayer 39 = .ok (.putfield 155, 3) := by decide +kernel
theorem dX6_readPlayer_42 : decode cX6_readPlayer 42 = .ok (.iconst 0, 1) := by decide +kernel
theorem dX6_readPlayer_43 : decode cX6_readPlayer 43 = .ok (.istore_n 2, 1) := by decide +kernel
theorem dX6_readPlayer_44 : decode cX6_readPlayer 44 = .ok (.iload_n 2, 1) := by decide +kernel
theorem dX6_readPlayer_45 : decode cX6_readPlayer 45 = .ok (.sipush 900, 3) := by decide +kernel
theorem dX6_readPlayer_48 : decode cX6_readPlayer 48 = .ok (.if_icmp .ge 108, 3) := by decide +kernel
theorem dX6_readPlayer_51 : decode cX6_readPlayer 51 = .ok (.aload_n 0, 1) := by decide +kernel
theorem dX6_readPlayer_52 : decode cX6_readPlayer 52 = .ok (.invokevirtual 70, 3) := by decide +kernel
theorem dX6_readPlayer_55 : decode cX6_readPlayer 55 = .ok (.invokestatic 158, 3) := by decide +kernel
theorem dX6_readPlayer_58 : decode cX6_readPlayer 58 = .ok (.ifCond .eq 98, 3) := by decide +kernel
theorem dX6_readPlayer_61 : decode cX6_readPlayer 61 = .ok (.aload_n 0, 1) := by decide +kernel
theorem dX6_readPlayer_62 : decode cX6_readPlayer 62 = .ok (.invokevirtual 70, 3) := by decide +kernel
theorem dX6_readPlayer_65 : decode cX6_readPlayer 65 = .ok (.istore_n 3, 1) := by decide +kernel
theorem dX6_readPlayer_66 : decode cX6_readPlayer 66 = .ok (.aload_n 0, 1) := by decide +kernel
theorem dX6_readPlayer_67 : decode cX6_readPlayer 67 = .ok (.dup, 1) := by decide +kernel
theorem dX6_readPlayer_68 : decode cX6_readPlayer 68 = .ok (.getfield 31, 3) := by decide +kernel
theorem dX6_readPlayer_71 : decode cX6_readPlayer 71 = .ok (.iconst 1, 1) := by decide +kernel
theorem dX6_readPlayer_72 : decode cX6_readPlayer 72 = .ok (.iadd, 1) := by decide +kernel
theorem dX6_readPlayer_73 : decode cX6_readPlayer 73 = .ok (.putfield 31, 3) := by decide +kernel
theorem dX6_readPlayer_76 : decode cX6_readPlayer 76 = .ok (.aload_n 0, 1) := by decide +kernel
theorem dX6_readPlayer_77 : decode cX6_readPlayer 77 = .ok (.iload_n 3, 1) := by decide +kernel
theorem dX6_readPlayer_78 : decode cX6_readPlayer 78 = .ok (.sipush 201, 3) := by decide +kernel
theorem dX6_readPlayer_81 : decode cX6_readPlayer 81 = .ok (.if_icmp .ne 8, 3) := by decide +kernel
theorem dX6_readPlayer_84 : decode cX6_readPlayer 84 = .ok (.bipush 9, 2) := by decide +kernel
theorem dX6_readPlayer_86 : decode cX6_readPlayer 86 = .ok (.goto 5, 3) := by decide +kernel
theorem dX6_readPlayer_89 : decode cX6_readPlayer 89 = .ok (.bipush 20, 2) := by decide +kernel
theorem dX6_readPlayer_91 : decode cX6_readPlayer 91 = .ok (.invokevirtual 139, 3) := by decide +kernel
theorem dX6_readPlayer_94 : decode cX6_readPlayer 94 = .ok (.ifCond .ne 5, 3) := by decide +kernel
theorem dX6_readPlayer_97 : decode cX6_readPlayer 97 = .ok (.iconst 0, 1) := by decide +kernel
theorem dX6_readPlayer_98 : decode cX6_readPlayer 98 = .ok (.ireturn, 1) := by decide +kernel
theorem dX6_readPlayer_99 : decode cX6_readPlayer 99 = .ok (.iload_n 3, 1) := by decide +kernel
theorem dX6_readPlayer_100 : decode cX6_readPlayer 100 = .ok (.sipush 201, 3) := by decide +kernel
theorem dX6_readPlayer_103 : decode cX6_readPlayer 103 = .ok (.if_icmp .ne 19, 3) := by decide +kernel
theorem dX6_readPlayer_106 : decode cX6_readPlayer 106 = .ok (.aload_n 0, 1) := by decide +kernel
theorem dX6_readPlayer_107 : decode cX6_readPlayer 107 = .ok (.getfield 41, 3) := by decide +kernel
theorem dX6_readPlayer_110 : decode cX6_readPlayer 110 = .ok (.getfield 161, 3) := by decide +kernel
theorem dX6_readPlayer_113 : decode cX6_readPlayer 113 = .ok (.iload_n 1, 1) := by decide +kernel
theorem dX6_readPlayer_114 : decode cX6_readPlayer 114 = .ok (.aload_n 0, 1) := by decide +kernel
theorem dX6_readPlayer_115 : decode cX6_readPlayer 115 = .ok (.invokevirtual 142, 3) := by decide +kernel
theorem dX6_readPlayer_118 : decode cX6_readPlayer 118 = .ok (.iastore, 1) := by decide +kernel
theorem dX6_readPlayer_119 : decode cX6_readPlayer 119 = .ok (.goto 31, 3) := by decide +kernel
theorem dX6_readPlayer_122 : decode cX6_readPlayer 122 = .ok (.aload_n 0, 1) := by decide +kernel
theorem dX6_readPlayer_123 : decode cX6_readPlayer 123 = .ok (.getfield 41, 3) := by decide +kernel
theorem dX6_readPlayer_126 : decode cX6_readPlayer 126 = .ok (.getfield 164, 3) := by decide +kernel
theorem dX6_readPlayer_129 : decode cX6_readPlayer 129 = .ok (.iload_n 1, 1) := by decide +kernel
theorem dX6_readPlayer_130 : decode cX6_readPlayer 130 = .ok (.iload_n 3, 1) := by decide +kernel
theorem dX6_readPlayer_131 : decode cX6_readPlayer 131 = .ok (.sipush 215, 3) := by decide +kernel
theorem dX6_readPlayer_134 : decode cX6_readPlayer 134 = .ok (.if_icmp .ne 10, 3) := by decide +kernel
theorem dX6_readPlayer_137 : decode cX6_readPlayer 137 = .ok (.aload_n 0, 1) := by decide +kernel
theorem dX6_readPlayer_138 : decode cX6_readPlayer 138 = .ok (.invokevirtual 142, 3) := by decide +kernel
theorem dX6_readPlayer_141 : decode cX6_readPlayer 141 = .ok (.goto 8, 3) := by decide +kernel
theorem dX6_readPlayer_144 : decode cX6_readPlayer 144 = .ok (.aload_n 0, 1) := by decide +kernel
theorem dX6_readPlayer_145 : decode cX6_readPlayer 145 = .ok (.invokevirtual 142, 3) := by decide +kernel
theorem dX6_readPlayer_148 : decode cX6_readPlayer 148 = .ok (.ineg, 1) := by decide +kernel
theorem dX6_readPlayer_149 : decode cX6_readPlayer 149 = .ok (.iastore, 1) := by decide +kernel
theorem dX6_readPlayer_150 : decode cX6_readPlayer 150 = .ok (.iinc 2 1, 3) := by decide +kernel
theorem dX6_readPlayer_153 : decode cX6_readPlayer 153 = .ok (.goto (-109), 3) := by decide +kernel
theorem dX6_readPlayer_156 : decode cX6_readPlayer 156 = .ok (.iconst 1, 1) := by decide +kernel
theorem dX6_readPlayer_157 : decode cX6_readPlayer 157 = .ok (.ireturn, 1) := by decide +kernel
theorem dX6_isFlag_0 : decode cX6_isFlag 0 = .ok (.iload_n 0, 1) := by decide +kernel
theorem dX6_isFlag_1 : decode cX6_isFlag 1 = .ok (.sipush 215, 3) := by decide +kernel
theorem dX6_isFlag_4 : decode cX6_isFlag 4 = .ok (.if_icmp .eq 17, 3) := by decide +kernel
theorem dX6_isFlag_7 : decode cX6_isFlag 7 = .ok (.iload_n 0, 1) := by decide +kernel
theorem dX6_isFlag_8 : decode cX6_isFlag 8 = .ok (.sipush 216, 3) := by decide +kernel
theorem dX6_isFlag_11 : decode cX6_isFlag 11 = .ok (.if_icmp .eq 10, 3) := by decide +kernel
theorem dX6_isFlag_14 : decode cX6_isFlag 14 = .ok (.iload_n 0, 1) := by decide +kernel
theorem dX6_isFlag_15 : decode cX6_isFlag 15 = .ok (.sipush 201, 3) := by decide +kernel
theorem dX6_isFlag_18 : decode cX6_isFlag 18 = .ok (.if_icmp .ne 7, 3) := by decide +kernel
theorem dX6_isFlag_21 : decode cX6_isFlag 21 = .ok (.iconst 1, 1) := by decide +kernel
theorem dX6_isFlag_22 : decode cX6_isFlag 22 = .ok (.goto 4, 3) := by decide +kernel
theorem dX6_isFlag_25 : decode cX6_isFlag 25 = .ok (.iconst 0, 1) := by decide +kernel
theorem dX6_isFlag_26 : decode cX6_isFlag 26 = .ok (.ireturn, 1) := by decide +kernel
theorem dX6_readLaw_0 : decode cX6_readLaw 0 = .ok (.aload_n 0, 1) := by decide +kernel
theorem dX6_readLaw_1 : decode cX6_readLaw 1 = .ok (.dup, 1) := by decide +kernel
theorem dX6_readLaw_2 : decode cX6_readLaw 2 = .ok (.getfield 31, 3) := by decide +kernel
theorem dX6_readLaw_5 : decode cX6_readLaw 5 = .ok (.iconst 1, 1) := by decide +kernel
theorem dX6_readLaw_6 : decode cX6_readLaw 6 = .ok (.iadd, 1) := by decide +kernel
theorem dX6_readLaw_7 : decode cX6_readLaw 7 = .ok (.putfield 31, 3) := by decide +kernel
theorem dX6_readLaw_10 : decode cX6_readLaw 10 = .ok (.aload_n 0, 1) := by decide +kernel
theorem dX6_readLaw_11 : decode cX6_readLaw 11 = .ok (.aload_n 1, 1) := by decide +kernel
theorem dX6_readLaw_12 : decode cX6_readLaw 12 = .ok (.putfield 45, 3) := by decide +kernel
theorem dX6_readLaw_15 : decode cX6_readLaw 15 = .ok (.aload_n 0, 1) := by decide +kernel
theorem dX6_readLaw_16 : decode cX6_readLaw 16 = .ok (.getfield 45, 3) := by decide +kernel
theorem dX6_readLaw_19 : decode cX6_readLaw 19 = .ok (.invokevirtual 167, 3) := by decide +kernel
theorem dX6_readLaw_22 : decode cX6_readLaw 22 = .ok (.aload_n 0, 1) := by decide +kernel
theorem dX6_readLaw_23 : decode cX6_readLaw 23 = .ok (.bipush 58, 2) := by decide +kernel
theorem dX6_readLaw_25 : decode cX6_readLaw 25 = .ok (.invokevirtual 63, 3) := by decide +kernel
theorem dX6_readLaw_28 : decode cX6_readLaw 28 = .ok (.ifCond .eq 16, 3) := by decide +kernel
theorem dX6_readLaw_31 : decode cX6_readLaw 31 = .ok (.aload_n 0, 1) := by decide +kernel
theorem dX6_readLaw_32 : decode cX6_readLaw 32 = .ok (.iload_n 2, 1) := by decide +kernel
theorem dX6_readLaw_33 : decode cX6_readLaw 33 = .ok (.iconst 0, 1) := by decide +kernel
theorem dX6_readLaw_34 : decode cX6_readLaw 34 = .ok (.invokevirtual 170, 3) := by decide +kernel
theorem dX6_readLaw_37 : decode cX6_readLaw 37 = .ok (.ifCond .eq 7, 3) := by decide +kernel
theorem dX6_readLaw_40 : decode cX6_readLaw 40 = .ok (.iconst 1, 1) := by decide +kernel
theorem dX6_readLaw_41 : decode cX6_readLaw 41 = .ok (.goto 4, 3) := by decide +kernel
theorem dX6_readLaw_44 : decode cX6_readLaw 44 = .ok (.iconst 0, 1) := by decide +kernel
theorem dX6_readLaw_45 : decode cX6_readLaw 45 = .ok (.ireturn, 1) := by decide +kernel
theorem dX6_readChain_0 : decode cX6_readChain 0 = .ok (.aload_n 0, 1) := by decide +kernel
theorem dX6_readChain_1 : decode cX6_readChain 1 = .ok (.iload_n 1, 1) := by decide +kernel
theorem dX6_readChain_2 : decode cX6_readChain 2 = .ok (.iload_n 2, 1) := by decide +kernel
theorem dX6_readChain_3 : decode cX6_readChain 3 = .ok (.invokevirtual 174, 3) := by decide +kernel
theorem dX6_readChain_6 : decode cX6_readChain 6 = .ok (.ifCond .ne 5, 3) := by decide +kernel
theorem dX6_readChain_9 : decode cX6_readChain 9 = .ok (.iconst 0, 1) := by decide +kernel
theorem dX6_readChain_10 : decode cX6_readChain 10 = .ok (.ireturn, 1) := by decide +kernel
theorem dX6_readChain_11 : decode cX6_readChain 11 = .ok (.iconst 0, 1) := by decide +kernel
theorem dX6_readChain_12 : decode cX6_readChain 12 = .ok (.istore_n 3, 1) := by decide +kernel
theorem dX6_readChain_13 : decode cX6_readChain 13 = .ok (.iload_n 3, 1) := by decide +kernel
theorem dX6_readChain_14 : decode cX6_readChain 14 = .ok (.sipush 900, 3) := by decide +kernel
theorem dX6_readChain_17 : decode cX6_readChain 17 = .ok (.if_icmp .ge 60, 3) := by decide +kernel
theorem dX6_readChain_20 : decode cX6_readChain 20 = .ok (.iload_n 1, 1) := by decide +kernel
theorem dX6_readChain_21 : decode cX6_readChain 21 = .ok (.aload_n 0, 1) := by decide +kernel
theorem dX6_readChain_22 : decode cX6_readChain 22 = .ok (.invokevirtual 70, 3) := by decide +kernel
theorem dX6_readChain_25 : decode cX6_readChain 25 = .ok (.invokestatic 177, 3) := by decide +kernel
theorem dX6_readChain_28 : decode cX6_readChain 28 = .ok (.ifCond .eq 49, 3) := by decide +kernel
theorem dX6_readChain_31 : decode cX6_readChain 31 = .ok (.aload_n 0, 1) := by decide +kernel
theorem dX6_readChain_32 : decode cX6_readChain 32 = .ok (.invokevirtual 70, 3) := by decide +kernel
theorem dX6_readChain_35 : decode cX6_readChain 35 = .ok (.istore 4, 2) := by decide +kernel
theorem dX6_readChain_37 : decode cX6_readChain 37 = .ok (.aload_n 0, 1) := by decide +kernel
theorem dX6_readChain_38 : decode cX6_readChain 38 = .ok (.dup, 1) := by decide +kernel
theorem dX6_readChain_39 : decode cX6_readChain 39 = .ok (.getfield 31, 3) := by decide +kernel
theorem dX6_readChain_42 : decode cX6_readChain 42 = .ok (.iconst 1, 1) := by decide +kernel
theorem dX6_readChain_43 : decode cX6_readChain 43 = .ok (.iadd, 1) := by decide +kernel
theorem dX6_readChain_44 : decode cX6_readChain 44 = .ok (.putfield 31, 3) := by decide +kernel
theorem dX6_readChain_47 : decode cX6_readChain 47 = .ok (.aload_n 0, 1) := by decide +kernel
theorem dX6_readChain_48 : decode cX6_readChain 48 = .ok (.iload_n 1, 1) := by decide +kernel
theorem dX6_readChain_49 : decode cX6_readChain 49 = .ok (.iload_n 2, 1) := by decide +kernel
theorem dX6_readChain_50 : decode cX6_readChain 50 = .ok (.invokevirtual 174, 3) := by decide +kernel
theorem dX6_readChain_53 : decode cX6_readChain 53 = .ok (.ifCond .ne 5, 3) := by decide +kernel
theorem dX6_readChain_56 : decode cX6_readChain 56 = .ok (.iconst 0, 1) := by decide +kernel
theorem dX6_readChain_57 : decode cX6_readChain 57 = .ok (.ireturn, 1) := by decide +kernel
theorem dX6_readChain_58 : decode cX6_readChain 58 = .ok (.aload_n 0, 1) := by decide +kernel
theorem dX6_readChain_59 : decode cX6_readChain 59 = .ok (.getfield 45, 3) := by decide +kernel
theorem dX6_readChain_62 : decode cX6_readChain 62 = .ok (.sipush 2000, 3) := by decide +kernel
theorem dX6_readChain_65 : decode cX6_readChain 65 = .ok (.iload 4, 2) := by decide +kernel
theorem dX6_readChain_67 : decode cX6_readChain 67 = .ok (.iadd, 1) := by decide +kernel
theorem dX6_readChain_68 : decode cX6_readChain 68 = .ok (.invokevirtual 180, 3) := by decide +kernel
theorem dX6_readChain_71 : decode cX6_readChain 71 = .ok (.iinc 3 1, 3) := by decide +kernel
theorem dX6_readChain_74 : decode cX6_readChain 74 = .ok (.goto (-61), 3) := by decide +kernel
theorem dX6_readChain_77 : decode cX6_readChain 77 = .ok (.iconst 1, 1) := by decide +kernel
theorem dX6_readChain_78 : decode cX6_readChain 78 = .ok (.ireturn, 1) := by decide +kernel
theorem dX6_joins_0 : decode cX6_joins 0 = .ok (.iload_n 0, 1) := by decide +kernel
theorem dX6_joins_1 : decode cX6_joins 1 = .ok (.tableswitch 71 0 2 #[27, 40, 53], 27) := by decide +kernel
theorem dX6_joins_28 : decode cX6_joins 28 = .ok (.iload_n 1, 1) := by decide +kernel
theorem dX6_joins_29 : decode cX6_joins 29 = .ok (.sipush 217, 3) := by decide +kernel
theorem dX6_joins_32 : decode cX6_joins 32 = .ok (.if_icmp .ne 7, 3) := by decide +kernel
theorem dX6_joins_35 : decode cX6_joins 35 = .ok (.iconst 1, 1) := by decide +kernel
theorem dX6_joins_36 : decode cX6_joins 36 = .ok (.goto 4, 3) := by decide +kernel
theorem dX6_joins_39 : decode cX6_joins 39 = .ok (.iconst 0, 1) := by decide +kernel
theorem dX6_joins_40 : decode cX6_joins 40 = .ok (.ireturn, 1) := by decide +kernel
theorem dX6_joins_41 : decode cX6_joins 41 = .ok (.iload_n 1, 1) := by decide +kernel
theorem dX6_joins_42 : decode cX6_joins 42 = .ok (.sipush 218, 3) := by decide +kernel
theorem dX6_joins_45 : decode cX6_joins 45 = .ok (.if_icmp .ne 7, 3) := by decide +kernel
theorem dX6_joins_48 : decode cX6_joins 48 = .ok (.iconst 1, 1) := by decide +kernel
theorem dX6_joins_49 : decode cX6_joins 49 = .ok (.goto 4, 3) := by decide +kernel
theorem dX6_joins_52 : decode cX6_joins 52 = .ok (.iconst 0, 1) := by decide +kernel
theorem dX6_joins_53 : decode cX6_joins 53 = .ok (.ireturn, 1) := by decide +kernel
theorem dX6_joins_54 : decode cX6_joins 54 = .ok (.iload_n 1, 1) := by decide +kernel
theorem dX6_joins_55 : decode cX6_joins 55 = .ok (.bipush 43, 2) := by decide +kernel
theorem dX6_joins_57 : decode cX6_joins 57 = .ok (.if_icmp .eq 9, 3) := by decide +kernel
theorem dX6_joins_60 : decode cX6_joins 60 = .ok (.iload_n 1, 1) := by decide +kernel
theorem dX6_joins_61 : decode cX6_joins 61 = .ok (.bipush 45, 2) := by decide +kernel
theorem dX6_joins_63 : decode cX6_joins 63 = .ok (.if_icmp .ne 7, 3) := by decide +kernel
theorem dX6_joins_66 : decode cX6_joins 66 = .ok (.iconst 1, 1) := by decide +kernel
theorem dX6_joins_67 : decode cX6_joins 67 = .ok (.goto 4, 3) := by decide +kernel
theorem dX6_joins_70 : decode cX6_joins 70 = .ok (.iconst 0, 1) := by decide +kernel
theorem dX6_joins_71 : decode cX6_joins 71 = .ok (.ireturn, 1) := by decide +kernel
theorem dX6_joins_72 : decode cX6_joins 72 = .ok (.iload_n 1, 1) := by decide +kernel
theorem dX6_joins_73 : decode cX6_joins 73 = .ok (.bipush 42, 2) := by decide +kernel
theorem dX6_joins_75 : decode cX6_joins 75 = .ok (.if_icmp .ne 7, 3) := by decide +kernel
theorem dX6_joins_78 : decode cX6_joins 78 = .ok (.iconst 1, 1) := by decide +kernel
theorem dX6_joins_79 : decode cX6_joins 79 = .ok (.goto 4, 3) := by decide +kernel
theorem dX6_joins_82 : decode cX6_joins 82 = .ok (.iconst 0, 1) := by decide +kernel
theorem dX6_joins_83 : decode cX6_joins 83 = .ok (.ireturn, 1) := by decide +kernel
theorem dX6_readPart_0 : decode cX6_readPart 0 = .ok (.iload_n 1, 1) := by decide +kernel
theorem dX6_readPart_1 : decode cX6_readPart 1 = .ok (.tableswitch 47 0 2 #[27, 34, 40], 27) := by decide +kernel
theorem dX6_readPart_28 : decode cX6_readPart 28 = .ok (.aload_n 0, 1) := by decide +kernel
theorem dX6_readPart_29 : decode cX6_readPart 29 = .ok (.iconst 1, 1) := by decide +kernel
theorem dX6_readPart_30 : decode cX6_readPart 30 = .ok (.iload_n 2, 1) := by decide +kernel
theorem dX6_readPart_31 : decode cX6_readPart 31 = .ok (.invokevirtual 170, 3) := by decide +kernel
theorem dX6_readPart_34 : decode cX6_readPart 34 = .ok (.ireturn, 1) := by decide +kernel
theorem dX6_readPart_35 : decode cX6_readPart 35 = .ok (.aload_n 0, 1) := by decide +kernel
theorem dX6_readPart_36 : decode cX6_readPart 36 = .ok (.iload_n 2, 1) := by decide +kernel
theorem dX6_readPart_37 : decode cX6_readPart 37 = .ok (.invokevirtual 183, 3) := by decide +kernel
theorem dX6_readPart_40 : decode cX6_readPart 40 = .ok (.ireturn, 1) := by decide +kernel
theorem dX6_readPart_41 : decode cX6_readPart 41 = .ok (.aload_n 0, 1) := by decide +kernel
theorem dX6_readPart_42 : decode cX6_readPart 42 = .ok (.iconst 3, 1) := by decide +kernel
theorem dX6_readPart_43 : decode cX6_readPart 43 = .ok (.iload_n 2, 1) := by decide +kernel
theorem dX6_readPart_44 : decode cX6_readPart 44 = .ok (.invokevirtual 170, 3) := by decide +kernel
theorem dX6_readPart_47 : decode cX6_readPart 47 = .ok (.ireturn, 1) := by decide +kernel
theorem dX6_readPart_48 : decode cX6_readPart 48 = .ok (.aload_n 0, 1) := by decide +kernel
theorem dX6_readPart_49 : decode cX6_readPart 49 = .ok (.iload_n 2, 1) := by decide +kernel
theorem dX6_readPart_50 : decode cX6_readPart 50 = .ok (.invokevirtual 186, 3) := by decide +kernel
theorem dX6_readPart_53 : decode cX6_readPart 53 = .ok (.ireturn, 1) := by decide +kernel
theorem dX6_readUnit_0 : decode cX6_readUnit 0 = .ok (.aload_n 0, 1) := by decide +kernel
theorem dX6_readUnit_1 : decode cX6_readUnit 1 = .ok (.invokevirtual 70, 3) := by decide +kernel
theorem dX6_readUnit_4 : decode cX6_readUnit 4 = .ok (.istore_n 2, 1) := by decide +kernel
theorem dX6_readUnit_5 : decode cX6_readUnit 5 = .ok (.iload_n 2, 1) := by decide +kernel
theorem dX6_readUnit_6 : decode cX6_readUnit 6 = .ok (.sipush 219, 3) := by decide +kernel
theorem dX6_readUnit_9 : decode cX6_readUnit 9 = .ok (.if_icmp .eq 15, 3) := by decide +kernel
theorem dX6_readUnit_12 : decode cX6_readUnit 12 = .ok (.iload_n 2, 1) := by decide +kernel
theorem dX6_readUnit_13 : decode cX6_readUnit 13 = .ok (.bipush 91, 2) := by decide +kernel
theorem dX6_readUnit_15 : decode cX6_readUnit 15 = .ok (.if_icmp .eq 9, 3) := by decide +kernel
theorem dX6_readUnit_18 : decode cX6_readUnit 18 = .ok (.aload_n 0, 1) := by decide +kernel
theorem dX6_readUnit_19 : decode cX6_readUnit 19 = .ok (.iload_n 1, 1) := by decide +kernel
theorem dX6_readUnit_20 : decode cX6_readUnit 20 = .ok (.invokevirtual 189, 3) := by decide +kernel
theorem dX6_readUnit_23 : decode cX6_readUnit 23 = .ok (.ireturn, 1) := by decide +kernel
theorem dX6_readUnit_24 : decode cX6_readUnit 24 = .ok (.iload_n 1, 1) := by decide +kernel
theorem dX6_readUnit_25 : decode cX6_readUnit 25 = .ok (.bipush 6, 2) := by decide +kernel
theorem dX6_readUnit_27 : decode cX6_readUnit 27 = .ok (.if_icmp .lt 9, 3) := by decide +kernel
theorem dX6_readUnit_30 : decode cX6_readUnit 30 = .ok (.aload_n 0, 1) := by decide +kernel
theorem dX6_readUnit_31 : decode cX6_readUnit 31 = .ok (.iconst 4, 1) := by decide +kernel
theorem dX6_readUnit_32 : decode cX6_readUnit 32 = .ok (.invokevirtual 117, 3) := by decide +kernel
theorem dX6_readUnit_35 : decode cX6_readUnit 35 = .ok (.ireturn, 1) := by decide +kernel
theorem dX6_readUnit_36 : decode cX6_readUnit 36 = .ok (.aload_n 0, 1) := by decide +kernel
theorem dX6_readUnit_37 : decode cX6_readUnit 37 = .ok (.dup, 1) := by decide +kernel
theorem dX6_readUnit_38 : decode cX6_readUnit 38 = .ok (.getfield 31, 3) := by decide +kernel
theorem dX6_readUnit_41 : decode cX6_readUnit 41 = .ok (.iconst 1, 1) := by decide +kernel
theorem dX6_readUnit_42 : decode cX6_readUnit 42 = .ok (.iadd, 1) := by decide +kernel
theorem dX6_readUnit_43 : decode cX6_readUnit 43 = .ok (.putfield 31, 3) := by decide +kernel
theorem dX6_readUnit_46 : decode cX6_readUnit 46 = .ok (.iload_n 2, 1) := by decide +kernel
theorem dX6_readUnit_47 : decode cX6_readUnit 47 = .ok (.bipush 91, 2) := by decide +kernel
theorem dX6_readUnit_49 : decode cX6_readUnit 49 = .ok (.if_icmp .ne 29, 3) := by decide +kernel
theorem dX6_readUnit_52 : decode cX6_readUnit 52 = .ok (.aload_n 0, 1) := by decide +kernel
theorem dX6_readUnit_53 : decode cX6_readUnit 53 = .ok (.iconst 0, 1) := by decide +kernel
theorem dX6_readUnit_54 : decode cX6_readUnit 54 = .ok (.iload_n 1, 1) := by decide +kernel
theorem dX6_readUnit_55 : decode cX6_readUnit 55 = .ok (.iconst 1, 1) := by decide +kernel
theorem dX6_readUnit_56 : decode cX6_readUnit 56 = .ok (.iadd, 1) := by decide +kernel
theorem dX6_readUnit_57 : decode cX6_readUnit 57 = .ok (.invokevirtual 170, 3) := by decide +kernel
theorem dX6_readUnit_60 : decode cX6_readUnit 60 = .ok (.ifCond .eq 16, 3) := by decide +kernel
theorem dX6_readUnit_63 : decode cX6_readUnit 63 = .ok (.aload_n 0, 1) := by decide +kernel
theorem dX6_readUnit_64 : decode cX6_readUnit 64 = .ok (.bipush 93, 2) := by decide +kernel
theorem dX6_readUnit_66 : decode cX6_readUnit 66 = .ok (.invokevirtual 63, 3) := by decide +kernel
theorem dX6_readUnit_69 : decode cX6_readUnit 69 = .ok (.ifCond .eq 7, 3) := by decide +kernel
theorem dX6_readUnit_72 : decode cX6_readUnit 72 = .ok (.iconst 1, 1) := by decide +kernel
theorem dX6_readUnit_73 : decode cX6_readUnit 73 = .ok (.goto 4, 3) := by decide +kernel
theorem dX6_readUnit_76 : decode cX6_readUnit 76 = .ok (.iconst 0, 1) := by decide +kernel
theorem dX6_readUnit_77 : decode cX6_readUnit 77 = .ok (.ireturn, 1) := by decide +kernel
theorem dX6_readUnit_78 : decode cX6_readUnit 78 = .ok (.aload_n 0, 1) := by decide +kernel
theorem dX6_readUnit_79 : decode cX6_readUnit 79 = .ok (.iload_n 1, 1) := by decide +kernel
theorem dX6_readUnit_80 : decode cX6_readUnit 80 = .ok (.iconst 1, 1) := by decide +kernel
theorem dX6_readUnit_81 : decode cX6_readUnit 81 = .ok (.iadd, 1) := by decide +kernel
theorem dX6_readUnit_82 : decode cX6_readUnit 82 = .ok (.invokevirtual 183, 3) := by decide +kernel
theorem dX6_readUnit_85 : decode cX6_readUnit 85 = .ok (.ifCond .ne 5, 3) := by decide +kernel
theorem dX6_readUnit_88 : decode cX6_readUnit 88 = .ok (.iconst 0, 1) := by decide +kernel
theorem dX6_readUnit_89 : decode cX6_readUnit 89 = .ok (.ireturn, 1) := by decide +kernel
theorem dX6_readUnit_90 : decode cX6_readUnit 90 = .ok (.aload_n 0, 1) := by decide +kernel
theorem dX6_readUnit_91 : decode cX6_readUnit 91 = .ok (.getfield 45, 3) := by decide +kernel
theorem dX6_readUnit_94 : decode cX6_readUnit 94 = .ok (.sipush 2219, 3) := by decide +kernel
theorem dX6_readUnit_97 : decode cX6_readUnit 97 = .ok (.invokevirtual 180, 3) := by decide +kernel
theorem dX6_readUnit_100 : decode cX6_readUnit 100 = .ok (.iconst 1, 1) := by decide +kernel
theorem dX6_readUnit_101 : decode cX6_readUnit 101 = .ok (.ireturn, 1) := by decide +kernel
theorem dX6_readComparison_0 : decode cX6_readComparison 0 = .ok (.aload_n 0, 1) := by decide +kernel
theorem dX6_readComparison_1 : decode cX6_readComparison 1 = .ok (.iconst 2, 1) := by decide +kernel
theorem dX6_readComparison_2 : decode cX6_readComparison 2 = .ok (.iload_n 1, 1) := by decide +kernel
theorem dX6_readComparison_3 : decode cX6_readComparison 3 = .ok (.invokevirtual 170, 3) := by decide +kernel
theorem dX6_readComparison_6 : decode cX6_readComparison 6 = .ok (.ifCond .ne 5, 3) := by decide +kernel
theorem dX6_readComparison_9 : decode cX6_readComparison 9 = .ok (.iconst 0, 1) := by decide +kernel
theorem dX6_readComparison_10 : decode cX6_readComparison 10 = .ok (.ireturn, 1) := by decide +kernel
theorem dX6_readComparison_11 : decode cX6_readComparison 11 = .ok (.aload_n 0, 1) := by decide +kernel
theorem dX6_readComparison_12 : decode cX6_readComparison 12 = .ok (.invokevirtual 70, 3) := by decide +kernel
theorem dX6_readComparison_15 : decode cX6_readComparison 15 = .ok (.istore_n 2, 1) := by decide +kernel
theorem dX6_readComparison_16 : decode cX6_readComparison 16 = .ok (.iload_n 2, 1) := by decide +kernel
theorem dX6_readComparison_17 : decode cX6_readComparison 17 = .ok (.bipush 61, 2) := by decide +kernel
theorem dX6_readComparison_19 : decode cX6_readComparison 19 = .ok (.if_icmp .eq 20, 3) := by decide +kernel
theorem dX6_readComparison_22 : decode cX6_readComparison 22 = .ok (.iload_n 2, 1) := by decide +kernel
theorem dX6_readComparison_23 : decode cX6_readComparison 23 = .ok (.bipush 60, 2) := by decide +kernel
theorem dX6_readComparison_25 : decode cX6_readComparison 25 = .ok (.if_icmp .eq 14, 3) := by decide +kernel
theorem dX6_readComparison_28 : decode cX6_readComparison 28 = .ok (.iload_n 2, 1) := by decide +kernel
theorem dX6_readComparison_29 : decode cX6_readComparison 29 = .ok (.bipush 62, 2) := by decide +kernel
theorem dX6_readComparison_31 : decode cX6_readComparison 31 = .ok (.if_icmp .eq 8, 3) := by decide +kernel
theorem dX6_readComparison_34 : decode cX6_readComparison 34 = .ok (.aload_n 0, 1) := by decide +kernel
theorem dX6_readComparison_35 : decode cX6_readComparison 35 = .ok (.invokevirtual 120, 3) := by decide +kernel
theorem dX6_readComparison_38 : decode cX6_readComparison 38 = .ok (.ireturn, 1) := by decide +kernel
theorem dX6_readComparison_39 : decode cX6_readComparison 39 = .ok (.aload_n 0, 1) := by decide +kernel
theorem dX6_readComparison_40 : decode cX6_readComparison 40 = .ok (.dup, 1) := by decide +kernel
theorem dX6_readComparison_41 : decode cX6_readComparison 41 = .ok (.getfield 31, 3) := by decide +kernel
theorem dX6_readComparison_44 : decode cX6_readComparison 44 = .ok (.iconst 1, 1) := by decide +kernel
theorem dX6_readComparison_45 : decode cX6_readComparison 45 = .ok (.iadd, 1) := by decide +kernel
theorem dX6_readComparison_46 : decode cX6_readComparison 46 = .ok (.putfield 31, 3) := by decide +kernel
theorem dX6_readComparison_49 : decode cX6_readComparison 49 = .ok (.aload_n 0, 1) := by decide +kernel
theorem dX6_readComparison_50 : decode cX6_readComparison 50 = .ok (.iconst 2, 1) := by decide +kernel
theorem dX6_readComparison_51 : decode cX6_readComparison 51 = .ok (.iload_n 1, 1) := by decide +kernel
theorem dX6_readComparison_52 : decode cX6_readComparison 52 = .ok (.invokevirtual 170, 3) := by decide +kernel
theorem dX6_readComparison_55 : decode cX6_readComparison 55 = .ok (.ifCond .ne 5, 3) := by decide +kernel
theorem dX6_readComparison_58 : decode cX6_readComparison 58 = .ok (.iconst 0, 1) := by decide +kernel
theorem dX6_readComparison_59 : decode cX6_readComparison 59 = .ok (.ireturn, 1) := by decide +kernel
theorem dX6_readComparison_60 : decode cX6_readComparison 60 = .ok (.aload_n 0, 1) := by decide +kernel
theorem dX6_readComparison_61 : decode cX6_readComparison 61 = .ok (.getfield 45, 3) := by decide +kernel
theorem dX6_readComparison_64 : decode cX6_readComparison 64 = .ok (.sipush 2000, 3) := by decide +kernel
theorem dX6_readComparison_67 : decode cX6_readComparison 67 = .ok (.iload_n 2, 1) := by decide +kernel
theorem dX6_readComparison_68 : decode cX6_readComparison 68 = .ok (.iadd, 1) := by decide +kernel
theorem dX6_readComparison_69 : decode cX6_readComparison 69 = .ok (.invokevirtual 180, 3) := by decide +kernel
theorem dX6_readComparison_72 : decode cX6_readComparison 72 = .ok (.iconst 1, 1) := by decide +kernel
theorem dX6_readComparison_73 : decode cX6_readComparison 73 = .ok (.ireturn, 1) := by decide +kernel
theorem dX6_readAtom_0 : decode cX6_readAtom 0 = .ok (.aload_n 0, 1) := by decide +kernel
theorem dX6_readAtom_1 : decode cX6_readAtom 1 = .ok (.invokevirtual 70, 3) := by decide +kernel
theorem dX6_readAtom_4 : decode cX6_readAtom 4 = .ok (.istore_n 2, 1) := by decide +kernel
theorem dX6_readAtom_5 : decode cX6_readAtom 5 = .ok (.iload_n 2, 1) := by decide +kernel
theorem dX6_readAtom_6 : decode cX6_readAtom 6 = .ok (.bipush 40, 2) := by decide +kernel
theorem dX6_readAtom_8 : decode cX6_readAtom 8 = .ok (.if_icmp .ne 51, 3) := by decide +kernel
theorem dX6_readAtom_11 : decode cX6_readAtom 11 = .ok (.iload_n 1, 1) := by decide +kernel
theorem dX6_readAtom_12 : decode cX6_readAtom 12 = .ok (.bipush 6, 2) := by decide +kernel
theorem dX6_readAtom_14 : decode cX6_readAtom 14 = .ok (.if_icmp .lt 9, 3) := by decide +kernel
theorem dX6_readAtom_17 : decode cX6_readAtom 17 = .ok (.aload_n 0, 1) := by decide +kernel
theorem dX6_readAtom_18 : decode cX6_readAtom 18 = .ok (.iconst 4, 1) := by decide +kernel
theorem dX6_readAtom_19 : decode cX6_readAtom 19 = .ok (.invokevirtual 117, 3) := by decide +kernel
theorem dX6_readAtom_22 : decode cX6_readAtom 22 = .ok (.ireturn, 1) := by decide +kernel
theorem dX6_readAtom_23 : decode cX6_readAtom 23 = .ok (.aload_n 0, 1) := by decide +kernel
theorem dX6_readAtom_24 : decode cX6_readAtom 24 = .ok (.dup, 1) := by decide +kernel
theorem dX6_readAtom_25 : decode cX6_readAtom 25 = .ok (.getfield 31, 3) := by decide +kernel
theorem dX6_readAtom_28 : decode cX6_readAtom 28 = .ok (.iconst 1, 1) := by decide +kernel
theorem dX6_readAtom_29 : decode cX6_readAtom 29 = .ok (.iadd, 1) := by decide +kernel
theorem dX6_readAtom_30 : decode cX6_readAtom 30 = .ok (.putfield 31, 3) := by decide +kernel
theorem dX6_readAtom_33 : decode cX6_readAtom 33 = .ok (.aload_n 0, 1) := by decide +kernel
theorem dX6_readAtom_34 : decode cX6_readAtom 34 = .ok (.iconst 2, 1) := by decide +kernel
theorem dX6_readAtom_35 : decode cX6_readAtom 35 = .ok (.iload_n 1, 1) := by decide +kernel
theorem dX6_readAtom_36 : decode cX6_readAtom 36 = .ok (.iconst 1, 1) := by decide +kernel
theorem dX6_readAtom_37 : decode cX6_readAtom 37 = .ok (.iadd, 1) := by decide +kernel
theorem dX6_readAtom_38 : decode cX6_readAtom 38 = .ok (.invokevirtual 170, 3) := by decide +kernel
theorem dX6_readAtom_41 : decode cX6_readAtom 41 = .ok (.ifCond .eq 16, 3) := by decide +kernel
theorem dX6_readAtom_44 : decode cX6_readAtom 44 = .ok (.aload_n 0, 1) := by decide +kernel
theorem dX6_readAtom_45 : decode cX6_readAtom 45 = .ok (.bipush 41, 2) := by decide +kernel
theorem dX6_readAtom_47 : decode cX6_readAtom 47 = .ok (.invokevirtual 63, 3) := by decide +kernel
theorem dX6_readAtom_50 : decode cX6_readAtom 50 = .ok (.ifCond .eq 7, 3) := by decide +kernel
theorem dX6_readAtom_53 : decode cX6_readAtom 53 = .ok (.iconst 1, 1) := by decide +kernel
theorem dX6_readAtom_54 : decode cX6_readAtom 54 = .ok (.goto 4, 3) := by decide +kernel
theorem dX6_readAtom_57 : decode cX6_readAtom 57 = .ok (.iconst 0, 1) := by decide +kernel
theorem dX6_readAtom_58 : decode cX6_readAtom 58 = .ok (.ireturn, 1) := by decide +kernel
theorem dX6_readAtom_59 : decode cX6_readAtom 59 = .ok (.iload_n 2, 1) := by decide +kernel
theorem dX6_readAtom_60 : decode cX6_readAtom 60 = .ok (.sipush 200, 3) := by decide +kernel
theorem dX6_readAtom_63 : decode cX6_readAtom 63 = .ok (.if_icmp .lt 38, 3) := by decide +kernel
theorem dX6_readAtom_66 : decode cX6_readAtom 66 = .ok (.iload_n 2, 1) := by decide +kernel
theorem dX6_readAtom_67 : decode cX6_readAtom 67 = .ok (.sipush 208, 3) := by decide +kernel
theorem dX6_readAtom_70 : decode cX6_readAtom 70 = .ok (.if_icmp .ge 31, 3) := by decide +kernel
theorem dX6_readAtom_73 : decode cX6_readAtom 73 = .ok (.aload_n 0, 1) := by decide +kernel
theorem dX6_readAtom_74 : decode cX6_readAtom 74 = .ok (.dup, 1) := by decide +kernel
theorem dX6_readAtom_75 : decode cX6_readAtom 75 = .ok (.getfield 31, 3) := by decide +kernel
theorem dX6_readAtom_78 : decode cX6_readAtom 78 = .ok (.iconst 1, 1) := by decide +kernel
theorem dX6_readAtom_79 : decode cX6_readAtom 79 = .ok (.iadd, 1) := by decide +kernel
theorem dX6_readAtom_80 : decode cX6_readAtom 80 = .ok (.putfield 31, 3) := by decide +kernel
theorem dX6_readAtom_83 : decode cX6_readAtom 83 = .ok (.aload_n 0, 1) := by decide +kernel
theorem dX6_readAtom_84 : decode cX6_readAtom 84 = .ok (.getfield 45, 3) := by decide +kernel
theorem dX6_readAtom_87 : decode cX6_readAtom 87 = .ok (.sipush 1000, 3) := by decide +kernel
theorem dX6_readAtom_90 : decode cX6_readAtom 90 = .ok (.iload_n 2, 1) := by decide +kernel
theorem dX6_readAtom_91 : decode cX6_readAtom 91 = .ok (.iadd, 1) := by decide +kernel
theorem dX6_readAtom_92 : decode cX6_readAtom 92 = .ok (.sipush 200, 3) := by decide +kernel
theorem dX6_readAtom_95 : decode cX6_readAtom 95 = .ok (.isub, 1) := by decide +kernel
theorem dX6_readAtom_96 : decode cX6_readAtom 96 = .ok (.invokevirtual 180, 3) := by decide +kernel
theorem dX6_readAtom_99 : decode cX6_readAtom 99 = .ok (.iconst 1, 1) := by decide +kernel
theorem dX6_readAtom_100 : decode cX6_readAtom 100 = .ok (.ireturn, 1) := by decide +kernel
theorem dX6_readAtom_101 : decode cX6_readAtom 101 = .ok (.aload_n 0, 1) := by decide +kernel
theorem dX6_readAtom_102 : decode cX6_readAtom 102 = .ok (.sipush 999, 3) := by decide +kernel
theorem dX6_readAtom_105 : decode cX6_readAtom 105 = .ok (.invokevirtual 139, 3) := by decide +kernel
theorem dX6_readAtom_108 : decode cX6_readAtom 108 = .ok (.ifCond .ne 5, 3) := by decide +kernel
theorem dX6_readAtom_111 : decode cX6_readAtom 111 = .ok (.iconst 0, 1) := by decide +kernel
theorem dX6_readAtom_112 : decode cX6_readAtom 112 = .ok (.ireturn, 1) := by decide +kernel
theorem dX6_readAtom_113 : decode cX6_readAtom 113 = .ok (.aload_n 0, 1) := by decide +kernel
theorem dX6_readAtom_114 : decode cX6_readAtom 114 = .ok (.getfield 45, 3) := by decide +kernel
theorem dX6_readAtom_117 : decode cX6_readAtom 117 = .ok (.aload_n 0, 1) := by decide +kernel
theorem dX6_readAtom_118 : decode cX6_readAtom 118 = .ok (.invokevirtual 142, 3) := by decide +kernel
theorem dX6_readAtom_121 : decode cX6_readAtom 121 = .ok (.invokevirtual 180, 3) := by decide +kernel
theorem dX6_readAtom_124 : decode cX6_readAtom 124 = .ok (.iconst 1, 1) := by decide +kernel
theorem dX6_readAtom_125 : decode cX6_readAtom 125 = .ok (.ireturn, 1) := by decide +kernel
theorem dX7_init_0 : decode cX7_init 0 = .ok (.aload_n 0, 1) := by decide +kernel
theorem dX7_init_1 : decode cX7_init 1 = .ok (.invokespecial 3, 3) := by decide +kernel
theorem dX7_init_4 : decode cX7_init 4 = .ok (.aload_n 0, 1) := by decide +kernel
theorem dX7_init_5 : decode cX7_init 5 = .ok (.bipush 48, 2) := by decide +kernel
theorem dX7_init_7 : decode cX7_init 7 = .ok (.newarray .int, 2) := by decide +kernel
theorem dX7_init_9 : decode cX7_init 9 = .ok (.putfield 9, 3) := by decide +kernel
theorem dX7_init_12 : decode cX7_init 12 = .ok (.aload_n 0, 1) := by decide +kernel
theorem dX7_init_13 : decode cX7_init 13 = .ok (.iconst 4, 1) := by decide +kernel
theorem dX7_init_14 : decode cX7_init 14 = .ok (.newarray .int, 2) := by decide +kernel
theorem dX7_init_16 : decode cX7_init 16 = .ok (.putfield 15, 3) := by decide +kernel
theorem dX7_init_19 : decode cX7_init 19 = .ok (.aload_n 0, 1) := by decide +kernel
theorem dX7_init_20 : decode cX7_init 20 = .ok (.iconst 5, 1) := by decide +kernel
theorem dX7_init_21 : decode cX7_init 21 = .ok (.newarray .int, 2) := by decide +kernel
theorem dX7_init_23 : decode cX7_init 23 = .ok (.putfield 18, 3) := by decide +kernel
theorem dX7_init_26 : decode cX7_init 26 = .ok (.aload_n 0, 1) := by decide +kernel
theorem dX7_init_27 : decode cX7_init 27 = .ok (.iconst 5, 1) := by decide +kernel
theorem dX7_init_28 : decode cX7_init 28 = .ok (.newarray .int, 2) := by decide +kernel
theorem dX7_init_30 : decode cX7_init 30 = .ok (.putfield 21, 3) := by decide +kernel
theorem dX7_init_33 : decode cX7_init 33 = .ok (.aload_n 0, 1) := by decide +kernel
theorem dX7_init_34 : decode cX7_init 34 = .ok (.new 24, 3) := by decide +kernel
theorem dX7_init_37 : decode cX7_init 37 = .ok (.dup, 1) := by decide +kernel
theorem dX7_init_38 : decode cX7_init 38 = .ok (.invokespecial 26, 3) := by decide +kernel
theorem dX7_init_41 : decode cX7_init 41 = .ok (.putfield 27, 3) := by decide +kernel
theorem dX7_init_44 : decode cX7_init 44 = .ok (.aload_n 0, 1) := by decide +kernel
theorem dX7_init_45 : decode cX7_init 45 = .ok (.new 24, 3) := by decide +kernel
theorem dX7_init_48 : decode cX7_init 48 = .ok (.dup, 1) := by decide +kernel
theorem dX7_init_49 : decode cX7_init 49 = .ok (.invokespecial 26, 3) := by decide +kernel
theorem dX7_init_52 : decode cX7_init 52 = .ok (.putfield 31, 3) := by decide +kernel
theorem dX7_init_55 : decode cX7_init 55 = .ok (.aload_n 0, 1) := by decide +kernel
theorem dX7_init_56 : decode cX7_init 56 = .ok (.iconst 0, 1) := by decide +kernel
theorem dX7_init_57 : decode cX7_init 57 = .ok (.putfield 34, 3) := by decide +kernel
theorem dX7_init_60 : decode cX7_init 60 = .ok (.aload_n 0, 1) := by decide +kernel
theorem dX7_init_61 : decode cX7_init 61 = .ok (.iconst 0, 1) := by decide +kernel
theorem dX7_init_62 : decode cX7_init 62 = .ok (.putfield 38, 3) := by decide +kernel
theorem dX7_init_65 : decode cX7_init 65 = .ok (.aload_n 0, 1) := by decide +kernel
theorem dX7_init_66 : decode cX7_init 66 = .ok (.iconst 0, 1) := by decide +kernel
theorem dX7_init_67 : decode cX7_init 67 = .ok (.putfield 41, 3) := by decide +kernel
theorem dX7_init_70 : decode cX7_init 70 = .ok (.aload_n 0, 1) := by decide +kernel
theorem dX7_init_71 : decode cX7_init 71 = .ok (.iconst 0, 1) := by decide +kernel
theorem dX7_init_72 : decode cX7_init 72 = .ok (.putfield 44, 3) := by decide +kernel
theorem dX7_init_75 : decode cX7_init 75 = .ok (.return_, 1) := by decide +kernel
theorem dX7_clear_0 : decode cX7_clear 0 = .ok (.aload_n 0, 1) := by decide +kernel
theorem dX7_clear_1 : decode cX7_clear 1 = .ok (.getfield 9, 3) := by decide +kernel
theorem dX7_clear_4 : decode cX7_clear 4 = .ok (.iconst 0, 1) := by decide +kernel
theorem dX7_clear_5 : decode cX7_clear 5 = .ok (.invokestatic 47, 3) := by decide +kernel
theorem dX7_clear_8 : decode cX7_clear 8 = .ok (.aload_n 0, 1) := by decide +kernel
theorem dX7_clear_9 : decode cX7_clear 9 = .ok (.getfield 15, 3) := by decide +kernel
theorem dX7_clear_12 : decode cX7_clear 12 = .ok (.iconst 0, 1) := by decide +kernel
theorem dX7_clear_13 : decode cX7_clear 13 = .ok (.invokestatic 47, 3) := by decide +kernel
theorem dX7_clear_16 : decode cX7_clear 16 = .ok (.aload_n 0, 1) := by decide +kernel
theorem dX7_clear_17 : decode cX7_clear 17 = .ok (.getfield 18, 3) := by decide +kernel
theorem dX7_clear_20 : decode cX7_clear 20 = .ok (.iconst 0, 1) := by decide +kernel
theorem dX7_clear_21 : decode cX7_clear 21 = .ok (.invokestatic 47, 3) := by decide +kernel
theorem dX7_clear_24 : decode cX7_clear 24 = .ok (.aload_n 0, 1) := by decide +kernel
theorem dX7_clear_25 : decode cX7_clear 25 = .ok (.getfield 21, 3) := by decide +kernel
theorem dX7_clear_28 : decode cX7_clear 28 = .ok (.iconst 0, 1) := by decide +kernel
theorem dX7_clear_29 : decode cX7_clear 29 = .ok (.invokestatic 47, 3) := by decide +kernel
theorem dX7_clear_32 : decode cX7_clear 32 = .ok (.aload_n 0, 1) := by decide +kernel
theorem dX7_clear_33 : decode cX7_clear 33 = .ok (.getfield 27, 3) := by decide +kernel
theorem dX7_clear_36 : decode cX7_clear 36 = .ok (.invokevirtual 53, 3) := by decide +kernel
theorem dX7_clear_39 : decode cX7_clear 39 = .ok (.aload_n 0, 1) := by decide +kernel
theorem dX7_clear_40 : decode cX7_clear 40 = .ok (.getfield 31, 3) := by decide +kernel
theorem dX7_clear_43 : decode cX7_clear 43 = .ok (.invokevirtual 53, 3) := by decide +kernel
theorem dX7_clear_46 : decode cX7_clear 46 = .ok (.aload_n 0, 1) := by decide +kernel
theorem dX7_clear_47 : decode cX7_clear 47 = .ok (.iconst 0, 1) := by decide +kernel
theorem dX7_clear_48 : decode cX7_clear 48 = .ok (.putfield 34, 3) := by decide +kernel
theorem dX7_clear_51 : decode cX7_clear 51 = .ok (.aload_n 0, 1) := by decide +kernel
theorem dX7_clear_52 : decode cX7_clear 52 = .ok (.iconst 0, 1) := by decide +kernel
theorem dX7_clear_53 : decode cX7_clear 53 = .ok (.putfield 38, 3) := by decide +kernel
theorem dX7_clear_56 : decode cX7_clear 56 = .ok (.aload_n 0, 1) := by decide +kernel
theorem dX7_clear_57 : decode cX7_clear 57 = .ok (.iconst 0, 1) := by decide +kernel
theorem dX7_clear_58 : decode cX7_clear 58 = .ok (.putfield 41, 3) := by decide +kernel
theorem dX7_clear_61 : decode cX7_clear 61 = .ok (.aload_n 0, 1) := by decide +kernel
theorem dX7_clear_62 : decode cX7_clear 62 = .ok (.iconst 0, 1) := by decide +kernel
theorem dX7_clear_63 : decode cX7_clear 63 = .ok (.putfield 44, 3) := by decide +kernel
theorem dX7_clear_66 : decode cX7_clear 66 = .ok (.return_, 1) := by decide +kernel
theorem dX7_hasPiece_0 : decode cX7_hasPiece 0 = .ok (.iload_n 1, 1) := by decide +kernel
theorem dX7_hasPiece_1 : decode cX7_hasPiece 1 = .ok (.ifCond .lt 24, 3) := by decide +kernel
theorem dX7_hasPiece_4 : decode cX7_hasPiece 4 = .ok (.iload_n 1, 1) := by decide +kernel
theorem dX7_hasPiece_5 : decode cX7_hasPiece 5 = .ok (.aload_n 0, 1) := by decide +kernel
theorem dX7_hasPiece_6 : decode cX7_hasPiece 6 = .ok (.getfield 34, 3) := by decide +kernel
theorem dX7_hasPiece_9 : decode cX7_hasPiece 9 = .ok (.if_icmp .ge 16, 3) := by decide +kernel
theorem dX7_hasPiece_12 : decode cX7_hasPiece 12 = .ok (.iload_n 1, 1) := by decide +kernel
theorem dX7_hasPiece_13 : decode cX7_hasPiece 13 = .ok (.aload_n 0, 1) := by decide +kernel
theorem dX7_hasPiece_14 : decode cX7_hasPiece 14 = .ok (.getfield 15, 3) := by decide +kernel
theorem dX7_hasPiece_17 : decode cX7_hasPiece 17 = .ok (.arraylength, 1) := by decide +kernel
theorem dX7_hasPiece_18 : decode cX7_hasPiece 18 = .ok (.if_icmp .ge 7, 3) := by decide +kernel
theorem dX7_hasPiece_21 : decode cX7_hasPiece 21 = .ok (.iconst 1, 1) := by decide +kernel
theorem dX7_hasPiece_22 : decode cX7_hasPiece 22 = .ok (.goto 4, 3) := by decide +kernel
theorem dX7_hasPiece_25 : decode cX7_hasPiece 25 = .ok (.iconst 0, 1) := by decide +kernel
theorem dX7_hasPiece_26 : decode cX7_hasPiece 26 = .ok (.ireturn, 1) := by decide +kernel
theorem dX7_hasPlayer_0 : decode cX7_hasPlayer 0 = .ok (.iload_n 1, 1) := by decide +kernel
theorem dX7_hasPlayer_1 : decode cX7_hasPlayer 1 = .ok (.ifCond .lt 24, 3) := by decide +kernel
theorem dX7_hasPlayer_4 : decode cX7_hasPlayer 4 = .ok (.iload_n 1, 1) := by decide +kernel
theorem dX7_hasPlayer_5 : decode cX7_hasPlayer 5 = .ok (.aload_n 0, 1) := by decide +kernel
theorem dX7_hasPlayer_6 : decode cX7_hasPlayer 6 = .ok (.getfield 38, 3) := by decide +kernel
theorem dX7_hasPlayer_9 : decode cX7_hasPlayer 9 = .ok (.if_icmp .ge 16, 3) := by decide +kernel
theorem dX7_hasPlayer_12 : decode cX7_hasPlayer 12 = .ok (.iload_n 1, 1) := by decide +kernel
theorem dX7_hasPlayer_13 : decode cX7_hasPlayer 13 = .ok (.aload_n 0, 1) := by decide +kernel
theorem dX7_hasPlayer_14 : decode cX7_hasPlayer 14 = .ok (.getfield 18, 3) := by decide +kernel
theorem dX7_hasPlayer_17 : decode cX7_hasPlayer 17 = .ok (.arraylength, 1) := by decide +kernel
theorem dX7_hasPlayer_18 : decode cX7_hasPlayer 18 = .ok (.if_icmp .ge 7, 3) := by decide +kernel
theorem dX7_hasPlayer_21 : decode cX7_hasPlayer 21 = .ok (.iconst 1, 1) := by decide +kernel
theorem dX7_hasPlayer_22 : decode cX7_hasPlayer 22 = .ok (.goto 4, 3) := by decide +kernel
theorem dX7_hasPlayer_25 : decode cX7_hasPlayer 25 = .ok (.iconst 0, 1) := by decide +kernel
theorem dX7_hasPlayer_26 : decode cX7_hasPlayer 26 = .ok (.ireturn, 1) := by decide +kernel
theorem dX7_hasBar_0 : decode cX7_hasBar 0 = .ok (.aload_n 0, 1) := by decide +kernel
theorem dX7_hasBar_1 : decode cX7_hasBar 1 = .ok (.iload_n 1, 1) := by decide +kernel
theorem dX7_hasBar_2 : decode cX7_hasBar 2 = .ok (.invokevirtual 56, 3) := by decide +kernel
theorem dX7_hasBar_5 : decode cX7_hasBar 5 = .ok (.ifCond .eq 27, 3) := by decide +kernel
theorem dX7_hasBar_8 : decode cX7_hasBar 8 = .ok (.iload_n 2, 1) := by decide +kernel
theorem dX7_hasBar_9 : decode cX7_hasBar 9 = .ok (.ifCond .lt 23, 3) := by decide +kernel
theorem dX7_hasBar_12 : decode cX7_hasBar 12 = .ok (.iload_n 2, 1) := by decide +kernel
theorem dX7_hasBar_13 : decode cX7_hasBar 13 = .ok (.aload_n 0, 1) := by decide +kernel
theorem dX7_hasBar_14 : decode cX7_hasBar 14 = .ok (.getfield 15, 3) := by decide +kernel
theorem dX7_hasBar_17 : decode cX7_hasBar 17 = .ok (.iload_n 1, 1) := by decide +kernel
theorem dX7_hasBar_18 : decode cX7_hasBar 18 = .ok (.iaload, 1) := by decide +kernel
theorem dX7_hasBar_19 : decode cX7_hasBar 19 = .ok (.if_icmp .ge 13, 3) := by decide +kernel
theorem dX7_hasBar_22 : decode cX7_hasBar 22 = .ok (.iload_n 2, 1) := by decide +kernel
theorem dX7_hasBar_23 : decode cX7_hasBar 23 = .ok (.bipush 12, 2) := by decide +kernel
theorem dX7_hasBar_25 : decode cX7_hasBar 25 = .ok (.if_icmp .ge 7, 3) := by decide +kernel
theorem dX7_hasBar_28 : decode cX7_hasBar 28 = .ok (.iconst 1, 1) := by decide +kernel
theorem dX7_hasBar_29 : decode cX7_hasBar 29 = .ok (.goto 4, 3) := by decide +kernel
theorem dX7_hasBar_32 : decode cX7_hasBar 32 = .ok (.iconst 0, 1) := by decide +kernel
theorem dX7_hasBar_33 : decode cX7_hasBar 33 = .ok (.ireturn, 1) := by decide +kernel
theorem dX7_barsOf_0 : decode cX7_barsOf 0 = .ok (.aload_n 0, 1) := by decide +kernel
theorem dX7_barsOf_1 : decode cX7_barsOf 1 = .ok (.iload_n 1, 1) := by decide +kernel
theorem dX7_barsOf_2 : decode cX7_barsOf 2 = .ok (.invokevirtual 56, 3) := by decide +kernel
theorem dX7_barsOf_5 : decode cX7_barsOf 5 = .ok (.ifCond .eq 12, 3) := by decide +kernel
theorem dX7_barsOf_8 : decode cX7_barsOf 8 = .ok (.aload_n 0, 1) := by decide +kernel
theorem dX7_barsOf_9 : decode cX7_barsOf 9 = .ok (.getfield 15, 3) := by decide +kernel
theorem dX7_barsOf_12 : decode cX7_barsOf 12 = .ok (.iload_n 1, 1) := by decide +kernel
theorem dX7_barsOf_13 : decode cX7_barsOf 13 = .ok (.iaload, 1) := by decide +kernel
theorem dX7_barsOf_14 : decode cX7_barsOf 14 = .ok (.goto 4, 3) := by decide +kernel
theorem dX7_barsOf_17 : decode cX7_barsOf 17 = .ok (.iconst 0, 1) := by decide +kernel
theorem dX7_barsOf_18 : decode cX7_barsOf 18 = .ok (.ireturn, 1) := by decide +kernel
theorem dX7_wantOf_0 : decode cX7_wantOf 0 = .ok (.aload_n 0, 1) := by decide +kernel
theorem dX7_wantOf_1 : decode cX7_wantOf 1 = .ok (.iload_n 1, 1) := by decide +kernel
theorem dX7_wantOf_2 : decode cX7_wantOf 2 = .ok (.iload_n 2, 1) := by decide +kernel
theorem dX7_wantOf_3 : decode cX7_wantOf 3 = .ok (.invokevirtual 60, 3) := by decide +kernel
theorem dX7_wantOf_6 : decode cX7_wantOf 6 = .ok (.ifCond .eq 17, 3) := by decide +kernel
theorem dX7_wantOf_9 : decode cX7_wantOf 9 = .ok (.aload_n 0, 1) := by decide +kernel
theorem dX7_wantOf_10 : decode cX7_wantOf 10 = .ok (.getfield 9, 3) := by decide +kernel
theorem dX7_wantOf_13 : decode cX7_wantOf 13 = .ok (.iload_n 1, 1) := by decide +kernel
theorem dX7_wantOf_14 : decode cX7_wantOf 14 = .ok (.bipush 12, 2) := by decide +kernel
theorem dX7_wantOf_16 : decode cX7_wantOf 16 = .ok (.imul, 1) := by decide +kernel
theorem dX7_wantOf_17 : decode cX7_wantOf 17 = .ok (.iload_n 2, 1) := by decide +kernel
theorem dX7_wantOf_18 : decode cX7_wantOf 18 = .ok (.iadd, 1) := by decide +kernel
theorem dX7_wantOf_19 : decode cX7_wantOf 19 = .ok (.iaload, 1) := by decide +kernel
theorem dX7_wantOf_20 : decode cX7_wantOf 20 = .ok (.goto 4, 3) := by decide +kernel
theorem dX7_wantOf_23 : decode cX7_wantOf 23 = .ok (.iconst 0, 1) := by decide +kernel
theorem dX7_wantOf_24 : decode cX7_wantOf 24 = .ok (.ireturn, 1) := by decide +kernel
theorem dX7_allBars_0 : decode cX7_allBars 0 = .ok (.iconst 0, 1) := by decide +kernel
theorem dX7_allBars_1 : decode cX7_allBars 1 = .ok (.istore_n 1, 1) := by decide +kernel
theorem dX7_allBars_2 : decode cX7_allBars 2 = .ok (.iconst 0, 1) := by decide +kernel
theorem dX7_allBars_3 : decode cX7_allBars 3 = .ok (.istore_n 2, 1) := by decide +kernel
theorem dX7_allBars_4 : decode cX7_allBars 4 = .ok (.iload_n 2, 1) := by decide +kernel
theorem dX7_allBars_5 : decode cX7_allBars 5 = .ok (.aload_n 0, 1) := by decide +kernel
theorem dX7_allBars_6 : decode cX7_allBars 6 = .ok (.getfield 34, 3) := by decide +kernel
theorem dX7_allBars_9 : decode cX7_allBars 9 = .ok (.if_icmp .ge 17, 3) := by decide +kernel
theorem dX7_allBars_12 : decode cX7_allBars 12 = .ok (.iload_n 1, 1) := by decide +kernel
theorem dX7_allBars_13 : decode cX7_allBars 13 = .ok (.aload_n 0, 1) := by decide +kernel
theorem dX7_allBars_14 : decode cX7_allBars 14 = .ok (.iload_n 2, 1) := by decide +kernel
theorem dX7_allBars_15 : decode cX7_allBars 15 = .ok (.invokevirtual 64, 3) := by decide +kernel
theorem dX7_allBars_18 : decode cX7_allBars 18 = .ok (.iadd, 1) := by decide +kernel
theorem dX7_allBars_19 : decode cX7_allBars 19 = .ok (.istore_n 1, 1) := by decide +kernel
theorem dX7_allBars_20 : decode cX7_allBars 20 = .ok (.iinc 2 1, 3) := by decide +kernel
theorem dX7_allBars_23 : decode cX7_allBars 23 = .ok (.goto (-19), 3) := by decide +kernel
theorem dX7_allBars_26 : decode cX7_allBars 26 = .ok (.iload_n 1, 1) := by decide +kernel
theorem dX7_allBars_27 : decode cX7_allBars 27 = .ok (.ireturn, 1) := by decide +kernel
theorem dX7_addBar_0 : decode cX7_addBar 0 = .ok (.aload_n 0, 1) := by decide +kernel
theorem dX7_addBar_1 : decode cX7_addBar 1 = .ok (.getfield 34, 3) := by decide +kernel
theorem dX7_addBar_4 : decode cX7_addBar 4 = .ok (.iconst 1, 1) := by decide +kernel
theorem dX7_addBar_5 : decode cX7_addBar 5 = .ok (.isub, 1) := by decide +kernel
theorem dX7_addBar_6 : decode cX7_addBar 6 = .ok (.istore_n 2, 1) := by decide +kernel
theorem dX7_addBar_7 : decode cX7_addBar 7 = .ok (.aload_n 0, 1) := by decide +kernel
theorem dX7_addBar_8 : decode cX7_addBar 8 = .ok (.iload_n 2, 1) := by decide +kernel
theorem dX7_addBar_9 : decode cX7_addBar 9 = .ok (.invokevirtual 56, 3) := by decide +kernel
theorem dX7_addBar_12 : decode cX7_addBar 12 = .ok (.ifCond .eq 41, 3) := by decide +kernel
theorem dX7_addBar_15 : decode cX7_addBar 15 = .ok (.aload_n 0, 1) := by decide +kernel
theorem dX7_addBar_16 : decode cX7_addBar 16 = .ok (.getfield 15, 3) := by decide +kernel
theorem dX7_addBar_19 : decode cX7_addBar 19 = .ok (.iload_n 2, 1) := by decide +kernel
theorem dX7_addBar_20 : decode cX7_addBar 20 = .ok (.iaload, 1) := by decide +kernel
theorem dX7_addBar_21 : decode cX7_addBar 21 = .ok (.bipush 12, 2) := by decide +kernel
theorem dX7_addBar_23 : decode cX7_addBar 23 = .ok (.if_icmp .ge 30, 3) := by decide +kernel
theorem dX7_addBar_26 : decode cX7_addBar 26 = .ok (.aload_n 0, 1) := by decide +kernel
theorem dX7_addBar_27 : decode cX7_addBar 27 = .ok (.getfield 9, 3) := by decide +kernel
theorem dX7_addBar_30 : decode cX7_addBar 30 = .ok (.iload_n 2, 1) := by decide +kernel
theorem dX7_addBar_31 : decode cX7_addBar 31 = .ok (.bipush 12, 2) := by decide +kernel
theorem dX7_addBar_33 : decode cX7_addBar 33 = .ok (.imul, 1) := by decide +kernel
theorem dX7_addBar_34 : decode cX7_addBar 34 = .ok (.aload_n 0, 1) := by decide +kernel
theorem dX7_addBar_35 : decode cX7_addBar 35 = .ok (.getfield 15, 3) := by decide +kernel
theorem dX7_addBar_38 : decode cX7_addBar 38 = .ok (.iload_n 2, 1) := by decide +kernel
theorem dX7_addBar_39 : decode cX7_addBar 39 = .ok (.iaload, 1) := by decide +kernel
theorem dX7_addBar_40 : decode cX7_addBar 40 = .ok (.iadd, 1) := by decide +kernel
theorem dX7_addBar_41 : decode cX7_addBar 41 = .ok (.iload_n 1, 1) := by decide +kernel
theorem dX7_addBar_42 : decode cX7_addBar 42 = .ok (.iastore, 1) := by decide +kernel
theorem dX7_addBar_43 : decode cX7_addBar 43 = .ok (.aload_n 0, 1) := by decide +kernel
theorem dX7_addBar_44 : decode cX7_addBar 44 = .ok (.getfield 15, 3) := by decide +kernel
theorem dX7_addBar_47 : decode cX7_addBar 47 = .ok (.iload_n 2, 1) := by decide +kernel
theorem dX7_addBar_48 : decode cX7_addBar 48 = .ok (.dup2, 1) := by decide +kernel
theorem dX7_addBar_49 : decode cX7_addBar 49 = .ok (.iaload, 1) := by decide +kernel
theorem dX7_addBar_50 : decode cX7_addBar 50 = .ok (.iconst 1, 1) := by decide +kernel
theorem dX7_addBar_51 : decode cX7_addBar 51 = .ok (.iadd, 1) := by decide +kernel
theorem dX7_addBar_52 : decode cX7_addBar 52 = .ok (.iastore, 1) := by decide +kernel
theorem dX7_addBar_53 : decode cX7_addBar 53 = .ok (.return_, 1) := by decide +kernel
theorem dX8_init_0 : decode cX8_init 0 = .ok (.aload_n 0, 1) := by decide +kernel
theorem dX8_init_1 : decode cX8_init 1 = .ok (.invokespecial 3, 3) := by decide +kernel
theorem dX8_init_4 : decode cX8_init 4 = .ok (.aload_n 0, 1) := by decide +kernel
theorem dX8_init_5 : decode cX8_init 5 = .ok (.iconst 5, 1) := by decide +kernel
theorem dX8_init_6 : decode cX8_init 6 = .ok (.newarray .int, 2) := by decide +kernel
theorem dX8_init_8 : decode cX8_init 8 = .ok (.putfield 9, 3) := by decide +kernel
theorem dX8_init_11 : decode cX8_init 11 = .ok (.aload_n 0, 1) := by decide +kernel
theorem dX8_init_12 : decode cX8_init 12 = .ok (.iconst 5, 1) := by decide +kernel
theorem dX8_init_13 : decode cX8_init 13 = .ok (.newarray .int, 2) := by decide +kernel
theorem dX8_init_15 : decode cX8_init 15 = .ok (.putfield 15, 3) := by decide +kernel
theorem dX8_init_18 : decode cX8_init 18 = .ok (.aload_n 0, 1) := by decide +kernel
theorem dX8_init_19 : decode cX8_init 19 = .ok (.iconst 5, 1) := by decide +kernel
theorem dX8_init_20 : decode cX8_init 20 = .ok (.newarray .int, 2) := by decide +kernel
theorem dX8_init_22 : decode cX8_init 22 = .ok (.putfield 18, 3) := by decide +kernel
theorem dX8_init_25 : decode cX8_init 25 = .ok (.aload_n 0, 1) := by decide +kernel
theorem dX8_init_26 : decode cX8_init 26 = .ok (.iconst 0, 1) := by decide +kernel
theorem dX8_init_27 : decode cX8_init 27 = .ok (.putfield 21, 3) := by decide +kernel
theorem dX8_init_30 : decode cX8_init 30 = .ok (.aload_n 0, 1) := by decide +kernel
theorem dX8_init_31 : decode cX8_init 31 = .ok (.iconst 0, 1) := by decide +kernel
theorem dX8_init_32 : decode cX8_init 32 = .ok (.putfield 25, 3) := by decide +kernel
theorem dX8_init_35 : decode cX8_init 35 = .ok (.return_, 1) := by decide +kernel
theorem dX8_begin_0 : decode cX8_begin 0 = .ok (.aload_n 1, 1) := by decide +kernel
theorem dX8_begin_1 : decode cX8_begin 1 = .ok (.getfield 28, 3) := by decide +kernel
theorem dX8_begin_4 : decode cX8_begin 4 = .ok (.iconst 0, 1) := by decide +kernel
theorem dX8_begin_5 : decode cX8_begin 5 = .ok (.aload_n 0, 1) := by decide +kernel
theorem dX8_begin_6 : decode cX8_begin 6 = .ok (.getfield 9, 3) := by decide +kernel
theorem dX8_begin_9 : decode cX8_begin 9 = .ok (.iconst 0, 1) := by decide +kernel
theorem dX8_begin_10 : decode cX8_begin 10 = .ok (.iconst 5, 1) := by decide +kernel
theorem dX8_begin_11 : decode cX8_begin 11 = .ok (.invokestatic 31, 3) := by decide +kernel
theorem dX8_begin_14 : decode cX8_begin 14 = .ok (.aload_n 1, 1) := by decide +kernel
theorem dX8_begin_15 : decode cX8_begin 15 = .ok (.getfield 37, 3) := by decide +kernel
theorem dX8_begin_18 : decode cX8_begin 18 = .ok (.iconst 0, 1) := by decide +kernel
theorem dX8_begin_19 : decode cX8_begin 19 = .ok (.aload_n 0, 1) := by decide +kernel
theorem dX8_begin_20 : decode cX8_begin 20 = .ok (.getfield 18, 3) := by decide +kernel
theorem dX8_begin_23 : decode cX8_begin 23 = .ok (.iconst 0, 1) := by decide +kernel
theorem dX8_begin_24 : decode cX8_begin 24 = .ok (.iconst 5, 1) := by decide +kernel
theorem dX8_begin_25 : decode cX8_begin 25 = .ok (.invokestatic 31, 3) := by decide +kernel
theorem dX8_begin_28 : decode cX8_begin 28 = .ok (.aload_n 0, 1) := by decide +kernel
theorem dX8_begin_29 : decode cX8_begin 29 = .ok (.getfield 15, 3) := by decide +kernel
theorem dX8_begin_32 : decode cX8_begin 32 = .ok (.iconst 0, 1) := by decide +kernel
theorem dX8_begin_33 : decode cX8_begin 33 = .ok (.invokestatic 38, 3) := by decide +kernel
theorem dX8_begin_36 : decode cX8_begin 36 = .ok (.aload_n 0, 1) := by decide +kernel
theorem dX8_begin_37 : decode cX8_begin 37 = .ok (.iconst 0, 1) := by decide +kernel
theorem dX8_begin_38 : decode cX8_begin 38 = .ok (.putfield 21, 3) := by decide +kernel
theorem dX8_begin_41 : decode cX8_begin 41 = .ok (.aload_n 0, 1) := by decide +kernel
theorem dX8_begin_42 : decode cX8_begin 42 = .ok (.iconst 0, 1) := by decide +kernel
theorem dX8_begin_43 : decode cX8_begin 43 = .ok (.putfield 25, 3) := by decide +kernel
theorem dX8_begin_46 : decode cX8_begin 46 = .ok (.return_, 1) := by decide +kernel
theorem dX8_copy_0 : decode cX8_copy 0 = .ok (.aload_n 1, 1) := by decide +kernel
theorem dX8_copy_1 : decode cX8_copy 1 = .ok (.getfield 9, 3) := by decide +kernel
theorem dX8_copy_4 : decode cX8_copy 4 = .ok (.iconst 0, 1) := by decide +kernel
theorem dX8_copy_5 : decode cX8_copy 5 = .ok (.aload_n 0, 1) := by decide +kernel
theorem dX8_copy_6 : decode cX8_copy 6 = .ok (.getfield 9, 3) := by decide +kernel
theorem dX8_copy_9 : decode cX8_copy 9 = .ok (.iconst 0, 1) := by decide +kernel
theorem dX8_copy_10 : decode cX8_copy 10 = .ok (.iconst 5, 1) := by decide +kernel
theorem dX8_copy_11 : decode cX8_copy 11 = .ok (.invokestatic 31, 3) := by decide +kernel
theorem dX8_copy_14 : decode cX8_copy 14 = .ok (.aload_n 1, 1) := by decide +kernel
theorem dX8_copy_15 : decode cX8_copy 15 = .ok (.getfield 15, 3) := by decide +kernel
theorem dX8_copy_18 : decode cX8_copy 18 = .ok (.iconst 0, 1) := by decide +kernel
theorem dX8_copy_19 : decode cX8_copy 19 = .ok (.aload_n 0, 1) := by decide +kernel
theorem dX8_copy_20 : decode cX8_copy 20 = .ok (.getfield 15, 3) := by decide +kernel
theorem dX8_copy_23 : decode cX8_copy 23 = .ok (.iconst 0, 1) := by decide +kernel
theorem dX8_copy_24 : decode cX8_copy 24 = .ok (.iconst 5, 1) := by decide +kernel
theorem dX8_copy_25 : decode cX8_copy 25 = .ok (.invokestatic 31, 3) := by decide +kernel
theorem dX8_copy_28 : decode cX8_copy 28 = .ok (.aload_n 1, 1) := by decide +kernel
theorem dX8_copy_29 : decode cX8_copy 29 = .ok (.getfield 18, 3) := by decide +kernel
theorem dX8_copy_32 : decode cX8_copy 32 = .ok (.iconst 0, 1) := by decide +kernel
theorem dX8_copy_33 : decode cX8_copy 33 = .ok (.aload_n 0, 1) := by decide +kernel
theorem dX8_copy_34 : decode cX8_copy 34 = .ok (.getfield 18, 3) := by decide +kernel
theorem dX8_copy_37 : decode cX8_copy 37 = .ok (.iconst 0, 1) := by decide +kernel
theorem dX8_copy_38 : decode cX8_copy 38 = .ok (.iconst 5, 1) := by decide +kernel
theorem dX8_copy_39 : decode cX8_copy 39 = .ok (.invokestatic 31, 3) := by decide +kernel
theorem dX8_copy_42 : decode cX8_copy 42 = .ok (.aload_n 0, 1) := by decide +kernel
theorem dX8_copy_43 : decode cX8_copy 43 = .ok (.aload_n 1, 1) := by decide +kernel
theorem dX8_copy_44 : decode cX8_copy 44 = .ok (.getfield 21, 3) := by decide +kernel
theorem dX8_copy_47 : decode cX8_copy 47 = .ok (.putfield 21, 3) := by decide +kernel
theorem dX8_copy_50 : decode cX8_copy 50 = .ok (.aload_n 0, 1) := by decide +kernel
theorem dX8_copy_51 : decode cX8_copy 51 = .ok (.aload_n 1, 1) := by decide +kernel
theorem dX8_copy_52 : decode cX8_copy 52 = .ok (.getfield 25, 3) := by decide +kernel
theorem dX8_copy_55 : decode cX8_copy 55 = .ok (.putfield 25, 3) := by decide +kernel
theorem dX8_copy_58 : decode cX8_copy 58 = .ok (.return_, 1) := by decide +kernel
theorem dX8_isBarred_0 : decode cX8_isBarred 0 = .ok (.aload_n 0, 1) := by decide +kernel
theorem dX8_isBarred_1 : decode cX8_isBarred 1 = .ok (.getfield 21, 3) := by decide +kernel
theorem dX8_isBarred_4 : decode cX8_isBarred 4 = .ok (.iload_n 1, 1) := by decide +kernel
theorem dX8_isBarred_5 : decode cX8_isBarred 5 = .ok (.ishr, 1) := by decide +kernel
theorem dX8_isBarred_6 : decode cX8_isBarred 6 = .ok (.iconst 1, 1) := by decide +kernel
theorem dX8_isBarred_7 : decode cX8_isBarred 7 = .ok (.iand, 1) := by decide +kernel
theorem dX8_isBarred_8 : decode cX8_isBarred 8 = .ok (.ifCond .eq 7, 3) := by decide +kernel
theorem dX8_isBarred_11 : decode cX8_isBarred 11 = .ok (.iconst 1, 1) := by decide +kernel
theorem dX8_isBarred_12 : decode cX8_isBarred 12 = .ok (.goto 4, 3) := by decide +kernel
theorem dX8_isBarred_15 : decode cX8_isBarred 15 = .ok (.iconst 0, 1) := by decide +kernel
theorem dX8_isBarred_16 : decode cX8_isBarred 16 = .ok (.ireturn, 1) := by decide +kernel
theorem dX8_addJoy_0 : decode cX8_addJoy 0 = .ok (.aload_n 0, 1) := by decide +kernel
theorem dX8_addJoy_1 : decode cX8_addJoy 1 = .ok (.getfield 15, 3) := by decide +kernel
theorem dX8_addJoy_4 : decode cX8_addJoy 4 = .ok (.iload_n 1, 1) := by decide +kernel
theorem dX8_addJoy_5 : decode cX8_addJoy 5 = .ok (.iaload, 1) := by decide +kernel
theorem dX8_addJoy_6 : decode cX8_addJoy 6 = .ok (.iload_n 2, 1) := by decide +kernel
theorem dX8_addJoy_7 : decode cX8_addJoy 7 = .ok (.iadd, 1) := by decide +kernel
theorem dX8_addJoy_8 : decode cX8_addJoy 8 = .ok (.istore_n 3, 1) := by decide +kernel
theorem dX8_addJoy_9 : decode cX8_addJoy 9 = .ok (.aload_n 0, 1) := by decide +kernel
theorem dX8_addJoy_10 : decode cX8_addJoy 10 = .ok (.getfield 15, 3) := by decide +kernel
theorem dX8_addJoy_13 : decode cX8_addJoy 13 = .ok (.iload_n 1, 1) := by decide +kernel
theorem dX8_addJoy_14 : decode cX8_addJoy 14 = .ok (.ldc 44, 2) := by decide +kernel
theorem dX8_addJoy_16 : decode cX8_addJoy 16 = .ok (.ldc 45, 2) := by decide +kernel
theorem dX8_addJoy_18 : decode cX8_addJoy 18 = .ok (.iload_n 3, 1) := by decide +kernel
theorem dX8_addJoy_19 : decode cX8_addJoy 19 = .ok (.invokestatic 46, 3) := by decide +kernel
theorem dX8_addJoy_22 : decode cX8_addJoy 22 = .ok (.invokestatic 52, 3) := by decide +kernel
theorem dX8_addJoy_25 : decode cX8_addJoy 25 = .ok (.iastore, 1) := by decide +kernel
theorem dX8_addJoy_26 : decode cX8_addJoy 26 = .ok (.return_, 1) := by decide +kernel
theorem dX8_allStores_0 : decode cX8_allStores 0 = .ok (.iconst 0, 1) := by decide +kernel
theorem dX8_allStores_1 : decode cX8_allStores 1 = .ok (.istore_n 1, 1) := by decide +kernel
theorem dX8_allStores_2 : decode cX8_allStores 2 = .ok (.aload_n 0, 1) := by decide +kernel
theorem dX8_allStores_3 : decode cX8_allStores 3 = .ok (.getfield 9, 3) := by decide +kernel
theorem dX8_allStores_6 : decode cX8_allStores 6 = .ok (.astore_n 2, 1) := by decide +kernel
theorem dX8_allStores_7 : decode cX8_allStores 7 = .ok (.aload_n 2, 1) := by decide +kernel
theorem dX8_allStores_8 : decode cX8_allStores 8 = .ok (.arraylength, 1) := by decide +kernel
theorem dX8_allStores_9 : decode cX8_allStores 9 = .ok (.istore_n 3, 1) := by decide +kernel
theorem dX8_allStores_10 : decode cX8_allStores 10 = .ok (.iconst 0, 1) := by decide +kernel
theorem dX8_allStores_11 : decode cX8_allStores 11 = .ok (.istore 4, 2) := by decide +kernel
theorem dX8_allStores_13 : decode cX8_allStores 13 = .ok (.iload 4, 2) := by decide +kernel
theorem dX8_allStores_15 : decode cX8_allStores 15 = .ok (.iload_n 3, 1) := by decide +kernel
theorem dX8_allStores_16 : decode cX8_allStores 16 = .ok (.if_icmp .ge 20, 3) := by decide +kernel
theorem dX8_allStores_19 : decode cX8_allStores 19 = .ok (.aload_n 2, 1) := by decide +kernel
theorem dX8_allStores_20 : decode cX8_allStores 20 = .ok (.iload 4, 2) := by decide +kernel
theorem dX8_allStores_22 : decode cX8_allStores 22 = .ok (.iaload, 1) := by decide +kernel
theorem dX8_allStores_23 : decode cX8_allStores 23 = .ok (.istore 5, 2) := by decide +kernel
theorem dX8_allStores_25 : decode cX8_allStores 25 = .ok (.iload_n 1, 1) := by decide +kernel
theorem dX8_allStores_26 : decode cX8_allStores 26 = .ok (.iload 5, 2) := by decide +kernel
theorem dX8_allStores_28 : decode cX8_allStores 28 = .ok (.iadd, 1) := by decide +kernel
theorem dX8_allStores_29 : decode cX8_allStores 29 = .ok (.istore_n 1, 1) := by decide +kernel
theorem dX8_allStores_30 : decode cX8_allStores 30 = .ok (.iinc 4 1, 3) := by decide +kernel
theorem dX8_allStores_33 : decode cX8_allStores 33 = .ok (.goto (-20), 3) := by decide +kernel
theorem dX8_allStores_36 : decode cX8_allStores 36 = .ok (.iload_n 1, 1) := by decide +kernel
theorem dX8_allStores_37 : decode cX8_allStores 37 = .ok (.ireturn, 1) := by decide +kernel
theorem dX8_allJoy_0 : decode cX8_allJoy 0 = .ok (.iconst 0, 1) := by decide +kernel
theorem dX8_allJoy_1 : decode cX8_allJoy 1 = .ok (.istore_n 1, 1) := by decide +kernel
theorem dX8_allJoy_2 : decode cX8_allJoy 2 = .ok (.aload_n 0, 1) := by decide +kernel
theorem dX8_allJoy_3 : decode cX8_allJoy 3 = .ok (.getfield 15, 3) := by decide +kernel
theorem dX8_allJoy_6 : decode cX8_allJoy 6 = .ok (.astore_n 2, 1) := by decide +kernel
theorem dX8_allJoy_7 : decode cX8_allJoy 7 = .ok (.aload_n 2, 1) := by decide +kernel
theorem dX8_allJoy_8 : decode cX8_allJoy 8 = .ok (.arraylength, 1) := by decide +kernel
theorem dX8_allJoy_9 : decode cX8_allJoy 9 = .ok (.istore_n 3, 1) := by decide +kernel
theorem dX8_allJoy_10 : decode cX8_allJoy 10 = .ok (.iconst 0, 1) := by decide +kernel
theorem dX8_allJoy_11 : decode cX8_allJoy 11 = .ok (.istore 4, 2) := by decide +kernel
theorem dX8_allJoy_13 : decode cX8_allJoy 13 = .ok (.iload 4, 2) := by decide +kernel
theorem dX8_allJoy_15 : decode cX8_allJoy 15 = .ok (.iload_n 3, 1) := by decide +kernel
theorem dX8_allJoy_16 : decode cX8_allJoy 16 = .ok (.if_icmp .ge 20, 3) := by decide +kernel
theorem dX8_allJoy_19 : decode cX8_allJoy 19 = .ok (.aload_n 2, 1) := by decide +kernel
theorem dX8_allJoy_20 : decode cX8_allJoy 20 = .ok (.iload 4, 2) := by decide +kernel
theorem dX8_allJoy_22 : decode cX8_allJoy 22 = .ok (.iaload, 1) := by decide +kernel
theorem dX8_allJoy_23 : decode cX8_allJoy 23 = .ok (.istore 5, 2) := by decide +kernel
theorem dX8_allJoy_25 : decode cX8_allJoy 25 = .ok (.iload_n 1, 1) := by decide +kernel
theorem dX8_allJoy_26 : decode cX8_allJoy 26 = .ok (.iload 5, 2) := by decide +kernel
theorem dX8_allJoy_28 : decode cX8_allJoy 28 = .ok (.iadd, 1) := by decide +kernel
theorem dX8_allJoy_29 : decode cX8_allJoy 29 = .ok (.istore_n 1, 1) := by decide +kernel
theorem dX8_allJoy_30 : decode cX8_allJoy 30 = .ok (.iinc 4 1, 3) := by decide +kernel
theorem dX8_allJoy_33 : decode cX8_allJoy 33 = .ok (.goto (-20), 3) := by decide +kernel
theorem dX8_allJoy_36 : decode cX8_allJoy 36 = .ok (.iload_n 1, 1) := by decide +kernel
theorem dX8_allJoy_37 : decode cX8_allJoy 37 = .ok (.ireturn, 1) := by decide +kernel
theorem dX9_init_0 : decode cX9_init 0 = .ok (.aload_n 0, 1) := by decide +kernel
theorem dX9_init_1 : decode cX9_init 1 = .ok (.invokespecial 3, 3) := by decide +kernel
theorem dX9_init_4 : decode cX9_init 4 = .ok (.aload_n 0, 1) := by decide +kernel
theorem dX9_init_5 : decode cX9_init 5 = .ok (.iconst (-1), 1) := by decide +kernel
theorem dX9_init_6 : decode cX9_init 6 = .ok (.putfield 11, 3) := by decide +kernel
theorem dX9_init_9 : decode cX9_init 9 = .ok (.aload_n 0, 1) := by decide +kernel
theorem dX9_init_10 : decode cX9_init 10 = .ok (.iconst 0, 1) := by decide +kernel
theorem dX9_init_11 : decode cX9_init 11 = .ok (.putfield 15, 3) := by decide +kernel
theorem dX9_init_14 : decode cX9_init 14 = .ok (.aload_n 0, 1) := by decide +kernel
theorem dX9_init_15 : decode cX9_init 15 = .ok (.bipush 40, 2) := by decide +kernel
theorem dX9_init_17 : decode cX9_init 17 = .ok (.newarray .long, 2) := by decide +kernel
theorem dX9_init_19 : decode cX9_init 19 = .ok (.putfield 18, 3) := by decide +kernel
theorem dX9_init_22 : decode cX9_init 22 = .ok (.return_, 1) := by decide +kernel
theorem dX9_isMissing_0 : decode cX9_isMissing 0 = .ok (.aload_n 0, 1) := by decide +kernel
theorem dX9_isMissing_1 : decode cX9_isMissing 1 = .ok (.getfield 11, 3) := by decide +kernel
theorem dX9_isMissing_4 : decode cX9_isMissing 4 = .ok (.iconst (-1), 1) := by decide +kernel
theorem dX9_isMissing_5 : decode cX9_isMissing 5 = .ok (.if_icmp .ne 7, 3) := by decide +kernel
theorem dX9_isMissing_8 : decode cX9_isMissing 8 = .ok (.iconst 1, 1) := by decide +kernel
theorem dX9_isMissing_9 : decode cX9_isMissing 9 = .ok (.goto 4, 3) := by decide +kernel
theorem dX9_isMissing_12 : decode cX9_isMissing 12 = .ok (.iconst 0, 1) := by decide +kernel
theorem dX9_isMissing_13 : decode cX9_isMissing 13 = .ok (.ireturn, 1) := by decide +kernel
theorem dX9_begin_0 : decode cX9_begin 0 = .ok (.aload_n 0, 1) := by decide +kernel
theorem dX9_begin_1 : decode cX9_begin 1 = .ok (.iload_n 1, 1) := by decide +kernel
theorem dX9_begin_2 : decode cX9_begin 2 = .ok (.putfield 15, 3) := by decide +kernel
theorem dX9_begin_5 : decode cX9_begin 5 = .ok (.aload_n 0, 1) := by decide +kernel
theorem dX9_begin_6 : decode cX9_begin 6 = .ok (.iconst 0, 1) := by decide +kernel
theorem dX9_begin_7 : decode cX9_begin 7 = .ok (.iload_n 2, 1) := by decide +kernel
theorem dX9_begin_8 : decode cX9_begin 8 = .ok (.bipush 40, 2) := by decide +kernel
theorem dX9_begin_10 : decode cX9_begin 10 = .ok (.invokestatic 22, 3) := by decide +kernel
theorem dX9_begin_13 : decode cX9_begin 13 = .ok (.invokestatic 28, 3) := by decide +kernel
theorem dX9_begin_16 : decode cX9_begin 16 = .ok (.putfield 11, 3) := by decide +kernel
theorem dX9_begin_19 : decode cX9_begin 19 = .ok (.aload_n 0, 1) := by decide +kernel
theorem dX9_begin_20 : decode cX9_begin 20 = .ok (.getfield 18, 3) := by decide +kernel
theorem dX9_begin_23 : decode cX9_begin 23 = .ok (.lconst 0, 1) := by decide +kernel
theorem dX9_begin_24 : decode cX9_begin 24 = .ok (.invokestatic 31, 3) := by decide +kernel
theorem dX9_begin_27 : decode cX9_begin 27 = .ok (.return_, 1) := by decide +kernel
theorem dX9_at_0 : decode cX9_at 0 = .ok (.iload_n 1, 1) := by decide +kernel
theorem dX9_at_1 : decode cX9_at 1 = .ok (.ifCond .lt 20, 3) := by decide +kernel
theorem dX9_at_4 : decode cX9_at 4 = .ok (.iload_n 1, 1) := by decide +kernel
theorem dX9_at_5 : decode cX9_at 5 = .ok (.aload_n 0, 1) := by decide +kernel
theorem dX9_at_6 : decode cX9_at 6 = .ok (.getfield 11, 3) := by decide +kernel
theorem dX9_at_9 : decode cX9_at 9 = .ok (.if_icmp .ge 12, 3) := by decide +kernel
theorem dX9_at_12 : decode cX9_at 12 = .ok (.aload_n 0, 1) := by decide +kernel
theorem dX9_at_13 : decode cX9_at 13 = .ok (.getfield 18, 3) := by decide +kernel
theorem dX9_at_16 : decode cX9_at 16 = .ok (.iload_n 1, 1) := by decide +kernel
theorem dX9_at_17 : decode cX9_at 17 = .ok (.laload, 1) := by decide +kernel
theorem dX9_at_18 : decode cX9_at 18 = .ok (.goto 4, 3) := by decide +kernel
theorem dX9_at_21 : decode cX9_at 21 = .ok (.lconst 0, 1) := by decide +kernel
theorem dX9_at_22 : decode cX9_at 22 = .ok (.lreturn, 1) := by decide +kernel
theorem dX9_put_0 : decode cX9_put 0 = .ok (.iload_n 1, 1) := by decide +kernel
theorem dX9_put_1 : decode cX9_put 1 = .ok (.ifCond .lt 22, 3) := by decide +kernel
theorem dX9_put_4 : decode cX9_put 4 = .ok (.iload_n 1, 1) := by decide +kernel
theorem dX9_put_5 : decode cX9_put 5 = .ok (.aload_n 0, 1) := by decide +kernel
theorem dX9_put_6 : decode cX9_put 6 = .ok (.getfield 11, 3) := by decide +kernel
theorem dX9_put_9 : decode cX9_put 9 = .ok (.if_icmp .ge 14, 3) := by decide +kernel
theorem dX9_put_12 : decode cX9_put 12 = .ok (.aload_n 0, 1) := by decide +kernel
theorem dX9_put_13 : decode cX9_put 13 = .ok (.getfield 18, 3) := by decide +kernel
theorem dX9_put_16 : decode cX9_put 16 = .ok (.iload_n 1, 1) := by decide +kernel
theorem dX9_put_17 : decode cX9_put 17 = .ok (.aload_n 0, 1) := by decide +kernel
theorem dX9_put_18 : decode cX9_put 18 = .ok (.lload_n 2, 1) := by decide +kernel
theorem dX9_put_19 : decode cX9_put 19 = .ok (.invokevirtual 37, 3) := by decide +kernel
theorem dX9_put_22 : decode cX9_put 22 = .ok (.lastore, 1) := by decide +kernel
theorem dX9_put_23 : decode cX9_put 23 = .ok (.return_, 1) := by decide +kernel
theorem dX9_cut_0 : decode cX9_cut 0 = .ok (.aload_n 0, 1) := by decide +kernel
theorem dX9_cut_1 : decode cX9_cut 1 = .ok (.getfield 15, 3) := by decide +kernel
theorem dX9_cut_4 : decode cX9_cut 4 = .ok (.tableswitch 42 0 2 #[28, 33, 38], 28) := by decide +kernel
theorem dX9_cut_32 : decode cX9_cut 32 = .ok (.lload_n 1, 1) := by decide +kernel
theorem dX9_cut_33 : decode cX9_cut 33 = .ok (.l2i, 1) := by decide +kernel
theorem dX9_cut_34 : decode cX9_cut 34 = .ok (.i2b, 1) := by decide +kernel
theorem dX9_cut_35 : decode cX9_cut 35 = .ok (.i2l, 1) := by decide +kernel
theorem dX9_cut_36 : decode cX9_cut 36 = .ok (.lreturn, 1) := by decide +kernel
theorem dX9_cut_37 : decode cX9_cut 37 = .ok (.lload_n 1, 1) := by decide +kernel
theorem dX9_cut_38 : decode cX9_cut 38 = .ok (.l2i, 1) := by decide +kernel
theorem dX9_cut_39 : decode cX9_cut 39 = .ok (.i2s, 1) := by decide +kernel
theorem dX9_cut_40 : decode cX9_cut 40 = .ok (.i2l, 1) := by decide +kernel
theorem dX9_cut_41 : decode cX9_cut 41 = .ok (.lreturn, 1) := by decide +kernel
theorem dX9_cut_42 : decode cX9_cut 42 = .ok (.lload_n 1, 1) := by decide +kernel
theorem dX9_cut_43 : decode cX9_cut 43 = .ok (.l2i, 1) := by decide +kernel
theorem dX9_cut_44 : decode cX9_cut 44 = .ok (.i2l, 1) := by decide +kernel
theorem dX9_cut_45 : decode cX9_cut 45 = .ok (.lreturn, 1) := by decide +kernel
theorem dX9_cut_46 : decode cX9_cut 46 = .ok (.lload_n 1, 1) := by decide +kernel
theorem dX9_cut_47 : decode cX9_cut 47 = .ok (.lreturn, 1) := by decide +kernel
theorem dX10_init_0 : decode cX10_init 0 = .ok (.aload_n 0, 1) := by decide +kernel
theorem dX10_init_1 : decode cX10_init 1 = .ok (.invokespecial 3, 3) := by decide +kernel
theorem dX10_init_4 : decode cX10_init 4 = .ok (.aload_n 0, 1) := by decide +kernel
theorem dX10_init_5 : decode cX10_init 5 = .ok (.bipush 12, 2) := by decide +kernel
theorem dX10_init_7 : decode cX10_init 7 = .ok (.newarray .int, 2) := by decide +kernel
theorem dX10_init_9 : decode cX10_init 9 = .ok (.putfield 9, 3) := by decide +kernel
theorem dX10_init_12 : decode cX10_init 12 = .ok (.aload_n 0, 1) := by decide +kernel
theorem dX10_init_13 : decode cX10_init 13 = .ok (.bipush 12, 2) := by decide +kernel
theorem dX10_init_15 : decode cX10_init 15 = .ok (.newarray .int, 2) := by decide +kernel
theorem dX10_init_17 : decode cX10_init 17 = .ok (.putfield 15, 3) := by decide +kernel
theorem dX10_init_20 : decode cX10_init 20 = .ok (.aload_n 0, 1) := by decide +kernel
theorem dX10_init_21 : decode cX10_init 21 = .ok (.iconst 0, 1) := by decide +kernel
theorem dX10_init_22 : decode cX10_init 22 = .ok (.putfield 18, 3) := by decide +kernel
theorem dX10_init_25 : decode cX10_init 25 = .ok (.aload_n 0, 1) := by decide +kernel
theorem dX10_init_26 : decode cX10_init 26 = .ok (.iconst 0, 1) := by decide +kernel
theorem dX10_init_27 : decode cX10_init 27 = .ok (.putfield 22, 3) := by decide +kernel
theorem dX10_init_30 : decode cX10_init 30 = .ok (.aload_n 0, 1) := by decide +kernel
theorem dX10_init_31 : decode cX10_init 31 = .ok (.sipush 2665, 3) := by decide +kernel
theorem dX10_init_34 : decode cX10_init 34 = .ok (.newarray .int, 2) := by decide +kernel
theorem dX10_init_36 : decode cX10_init 36 = .ok (.putfield 25, 3) := by decide +kernel
theorem dX10_init_39 : decode cX10_init 39 = .ok (.aload_n 0, 1) := by decide +kernel
theorem dX10_init_40 : decode cX10_init 40 = .ok (.sipush 2460, 3) := by decide +kernel
theorem dX10_init_43 : decode cX10_init 43 = .ok (.newarray .byte, 2) := by decide +kernel
theorem dX10_init_45 : decode cX10_init 45 = .ok (.putfield 28, 3) := by decide +kernel
theorem dX10_init_48 : decode cX10_init 48 = .ok (.aload_n 0, 1) := by decide +kernel
theorem dX10_init_49 : decode cX10_init 49 = .ok (.sipush 205, 3) := by decide +kernel
theorem dX10_init_52 : decode cX10_init 52 = .ok (.newarray .int, 2) := by decide +kernel
theorem dX10_init_54 : decode cX10_init 54 = .ok (.putfield 32, 3) := by decide +kernel
theorem dX10_init_57 : decode cX10_init 57 = .ok (.aload_n 0, 1) := by decide +kernel
theorem dX10_init_58 : decode cX10_init 58 = .ok (.sipush 205, 3) := by decide +kernel
theorem dX10_init_61 : decode cX10_init 61 = .ok (.newarray .int, 2) := by decide +kernel
theorem dX10_init_63 : decode cX10_init 63 = .ok (.putfield 35, 3) := by decide +kernel
theorem dX10_init_66 : decode cX10_init 66 = .ok (.aload_n 0, 1) := by decide +kernel
theorem dX10_init_67 : decode cX10_init 67 = .ok (.sipush 205, 3) := by decide +kernel
theorem dX10_init_70 : decode cX10_init 70 = .ok (.newarray .long, 2) := by decide +kernel
theorem dX10_init_72 : decode cX10_init 72 = .ok (.putfield 38, 3) := by decide +kernel
theorem dX10_init_75 : decode cX10_init 75 = .ok (.aload_n 0, 1) := by decide +kernel
theorem dX10_init_76 : decode cX10_init 76 = .ok (.sipush 205, 3) := by decide +kernel
theorem dX10_init_79 : decode cX10_init 79 = .ok (.newarray .long, 2) := by decide +kernel
theorem dX10_init_81 : decode cX10_init 81 = .ok (.putfield 42, 3) := by decide +kernel
theorem dX10_init_84 : decode cX10_init 84 = .ok (.aload_n 0, 1) := by decide +kernel
theorem dX10_init_85 : decode cX10_init 85 = .ok (.aload_n 1, 1) := by decide +kernel
theorem dX10_init_86 : decode cX10_init 86 = .ok (.putfield 45, 3) := by decide +kernel
theorem dX10_init_89 : decode cX10_init 89 = .ok (.aload_n 0, 1) := by decide +kernel
theorem dX10_init_90 : decode cX10_init 90 = .ok (.getfield 15, 3) := by decide +kernel
theorem dX10_init_93 : decode cX10_init 93 = .ok (.bipush 31, 2) := by decide +kernel
theorem dX10_init_95 : decode cX10_init 95 = .ok (.invokestatic 49, 3) := by decide +kernel
theorem dX10_init_98 : decode cX10_init 98 = .ok (.return_, 1) := by decide +kernel
theorem dX10_settle_0 : decode cX10_settle 0 = .ok (.aload_n 0, 1) := by decide +kernel
theorem dX10_settle_1 : decode cX10_settle 1 = .ok (.getfield 45, 3) := by decide +kernel
theorem dX10_settle_4 : decode cX10_settle 4 = .ok (.getfield 55, 3) := by decide +kernel
theorem dX10_settle_7 : decode cX10_settle 7 = .ok (.bipush 12, 2) := by decide +kernel
theorem dX10_settle_9 : decode cX10_settle 9 = .ok (.invokestatic 60, 3) := by decide +kernel
theorem dX10_settle_12 : decode cX10_settle 12 = .ok (.istore 5, 2) := by decide +kernel
theorem dX10_settle_14 : decode cX10_settle 14 = .ok (.iconst 0, 1) := by decide +kernel
theorem dX10_settle_15 : decode cX10_settle 15 = .ok (.istore 6, 2) := by decide +kernel
theorem dX10_settle_17 : decode cX10_settle 17 = .ok (.iload 6, 2) := by decide +kernel
theorem dX10_settle_19 : decode cX10_settle 19 = .ok (.sipush 205, 3) := by decide +kernel
theorem dX10_settle_22 : decode cX10_settle 22 = .ok (.if_icmp .ge 38, 3) := by decide +kernel
theorem dX10_settle_25 : decode cX10_settle 25 = .ok (.aload_n 0, 1) := by decide +kernel
theorem dX10_settle_26 : decode cX10_settle 26 = .ok (.getfield 25, 3) := by decide +kernel
theorem dX10_settle_29 : decode cX10_settle 29 = .ok (.iload 5, 2) := by decide +kernel
theorem dX10_settle_31 : decode cX10_settle 31 = .ok (.sipush 205, 3) := by decide +kernel
theorem dX10_settle_34 : decode cX10_settle 34 = .ok (.imul, 1) := by decide +kernel
theorem dX10_settle_35 : decode cX10_settle 35 = .ok (.iload 6, 2) := by decide +kernel
theorem dX10_settle_37 : decode cX10_settle 37 = .ok (.iadd, 1) := by decide +kernel
theorem dX10_settle_38 : decode cX10_settle 38 = .ok (.iload 6, 2) := by decide +kernel
theorem dX10_settle_40 : decode cX10_settle 40 = .ok (.invokestatic 66, 3) := by decide +kernel
theorem dX10_settle_43 : decode cX10_settle 43 = .ok (.iload_n 3, 1) := by decide +kernel
theorem dX10_settle_44 : decode cX10_settle 44 = .ok (.if_icmp .lt 7, 3) := by decide +kernel
theorem dX10_settle_47 : decode cX10_settle 47 = .ok (.iconst 0, 1) := by decide +kernel
theorem dX10_settle_48 : decode cX10_settle 48 = .ok (.goto 5, 3) := by decide +kernel
theorem dX10_settle_51 : decode cX10_settle 51 = .ok (.ldc 70, 2) := by decide +kernel
theorem dX10_settle_53 : decode cX10_settle 53 = .ok (.iastore, 1) := by decide +kernel
theorem dX10_settle_54 : decode cX10_settle 54 = .ok (.iinc 6 1, 3) := by decide +kernel
theorem dX10_settle_57 : decode cX10_settle 57 = .ok (.goto (-40), 3) := by decide +kernel
theorem dX10_settle_60 : decode cX10_settle 60 = .ok (.iload 5, 2) := by decide +kernel
theorem dX10_settle_62 : decode cX10_settle 62 = .ok (.iconst 1, 1) := by decide +kernel
theorem dX10_settle_63 : decode cX10_settle 63 = .ok (.isub, 1) := by decide +kernel
theorem dX10_settle_64 : decode cX10_settle 64 = .ok (.istore 6, 2) := by decide +kernel
theorem dX10_settle_66 : decode cX10_settle 66 = .ok (.iload 6, 2) := by decide +kernel
theorem dX10_settle_68 : decode cX10_settle 68 = .ok (.ifCond .lt 96, 3) := by decide +kernel
theorem dX10_settle_71 : decode cX10_settle 71 = .ok (.aload_n 0, 1) := by decide +kernel
theorem dX10_settle_72 : decode cX10_settle 72 = .ok (.getfield 45, 3) := by decide +kernel
theorem dX10_settle_75 : decode cX10_settle 75 = .ok (.iload 6, 2) := by decide +kernel
theorem dX10_settle_77 : decode cX10_settle 77 = .ok (.invokevirtual 71, 3) := by decide +kernel
theorem dX10_settle_80 : decode cX10_settle 80 = .ok (.istore 7, 2) := by decide +kernel
theorem dX10_settle_82 : decode cX10_settle 82 = .ok (.bipush (-20), 2) := by decide +kernel
theorem dX10_settle_84 : decode cX10_settle 84 = .ok (.iload_n 1, 1) := by decide +kernel
theorem dX10_settle_85 : decode cX10_settle 85 = .ok (.iload 6, 2) := by decide +kernel
theorem dX10_settle_87 : decode cX10_settle 87 = .ok (.iconst 2, 1) := by decide +kernel
theorem dX10_settle_88 : decode cX10_settle 88 = .ok (.imul, 1) := by decide +kernel
theorem dX10_settle_89 : decode cX10_settle 89 = .ok (.isub, 1) := by decide +kernel
theorem dX10_settle_90 : decode cX10_settle 90 = .ok (.invokestatic 74, 3) := by decide +kernel
theorem dX10_settle_93 : decode cX10_settle 93 = .ok (.istore 8, 2) := by decide +kernel
theorem dX10_settle_95 : decode cX10_settle 95 = .ok (.bipush 20, 2) := by decide +kernel
theorem dX10_settle_97 : decode cX10_settle 97 = .ok (.iload_n 2, 1) := by decide +kernel
theorem dX10_settle_98 : decode cX10_settle 98 = .ok (.iload 6, 2) := by decide +kernel
theorem dX10_settle_100 : decode cX10_settle 100 = .ok (.iconst 2, 1) := by decide +kernel
theorem dX10_settle_101 : decode cX10_settle 101 = .ok (.imul, 1) := by decide +kernel
theorem dX10_settle_102 : decode cX10_settle 102 = .ok (.iadd, 1) := by decide +kernel
theorem dX10_settle_103 : decode cX10_settle 103 = .ok (.invokestatic 60, 3) := by decide +kernel
theorem dX10_settle_106 : decode cX10_settle 106 = .ok (.istore 9, 2) := by decide +kernel
theorem dX10_settle_108 : decode cX10_settle 108 = .ok (.iload 8, 2) := by decide +kernel
theorem dX10_settle_110 : decode cX10_settle 110 = .ok (.istore 10, 2) := by decide +kernel
theorem dX10_settle_112 : decode cX10_settle 112 = .ok (.iload 10, 2) := by decide +kernel
theorem dX10_settle_114 : decode cX10_settle 114 = .ok (.iload 9, 2) := by decide +kernel
theorem dX10_settle_116 : decode cX10_settle 116 = .ok (.if_icmp .gt 42, 3) := by decide +kernel
theorem dX10_settle_119 : decode cX10_settle 119 = .ok (.iload 7, 2) := by decide +kernel
theorem dX10_settle_121 : decode cX10_settle 121 = .ok (.ineg, 1) := by decide +kernel
theorem dX10_settle_122 : decode cX10_settle 122 = .ok (.istore 11, 2) := by decide +kernel
theorem dX10_settle_124 : decode cX10_settle 124 = .ok (.iload 11, 2) := by decide +kernel
theorem dX10_settle_126 : decode cX10_settle 126 = .ok (.iload 7, 2) := by decide +kernel
theorem dX10_settle_128 : decode cX10_settle 128 = .ok (.if_icmp .gt 24, 3) := by decide +kernel
theorem dX10_settle_131 : decode cX10_settle 131 = .ok (.aload_n 0, 1) := by decide +kernel
theorem dX10_settle_132 : decode cX10_settle 132 = .ok (.iload 6, 2) := by decide +kernel
theorem dX10_settle_134 : decode cX10_settle 134 = .ok (.iload 10, 2) := by decide +kernel
theorem dX10_settle_136 : decode cX10_settle 136 = .ok (.iload 11, 2) := by decide +kernel
theorem dX10_settle_138 : decode cX10_settle 138 = .ok (.aload 4, 2) := by decide +kernel
theorem dX10_settle_140 : decode cX10_settle 140 = .ok (.iload 6, 2) := by decide +kernel
theorem dX10_settle_142 : decode cX10_settle 142 = .ok (.iaload, 1) := by decide +kernel
theorem dX10_settle_143 : decode cX10_settle 143 = .ok (.invokevirtual 77, 3) := by decide +kernel
theorem dX10_settle_146 : decode cX10_settle 146 = .ok (.iinc 11 1, 3) := by decide +kernel
theorem dX10_settle_149 : decode cX10_settle 149 = .ok (.goto (-25), 3) := by decide +kernel
theorem dX10_settle_152 : decode cX10_settle 152 = .ok (.iinc 10 1, 3) := by decide +kernel
theorem dX10_settle_155 : decode cX10_settle 155 = .ok (.goto (-43), 3) := by decide +kernel
theorem dX10_settle_158 : decode cX10_settle 158 = .ok (.iinc 6 (-1), 3) := by decide +kernel
theorem dX10_settle_161 : decode cX10_settle 161 = .ok (.goto (-95), 3) := by decide +kernel
theorem dX10_settle_164 : decode cX10_settle 164 = .ok (.return_, 1) := by decide +kernel
theorem dX10_settleAt_0 : decode cX10_settleAt 0 = .ok (.ldc 70, 2) := by decide +kernel
theorem dX10_settleAt_2 : decode cX10_settleAt 2 = .ok (.istore 5, 2) := by decide +kernel
theorem dX10_settleAt_4 : decode cX10_settleAt 4 = .ok (.bipush 9, 2) := by decide +kernel
theorem dX10_settleAt_6 : decode cX10_settleAt 6 = .ok (.istore 6, 2) := by decide +kernel
theorem dX10_settleAt_8 : decode cX10_settleAt 8 = .ok (.bipush (-2), 2) := by decide +kernel
theorem dX10_settleAt_10 : decode cX10_settleAt 10 = .ok (.istore 7, 2) := by decide +kernel
theorem dX10_settleAt_12 : decode cX10_settleAt 12 = .ok (.iload 7, 2) := by decide +kernel
theorem dX10_settleAt_14 : decode cX10_settleAt 14 = .ok (.iconst 2, 1) := by decide +kernel
theorem dX10_settleAt_15 : decode cX10_settleAt 15 = .ok (.if_icmp .gt 105, 3) := by decide +kernel
theorem dX10_settleAt_18 : decode cX10_settleAt 18 = .ok (.iload 4, 2) := by decide +kernel
theorem dX10_settleAt_20 : decode cX10_settleAt 20 = .ok (.iload 7, 2) := by decide +kernel
theorem dX10_settleAt_22 : decode cX10_settleAt 22 = .ok (.invokestatic 81, 3) := by decide +kernel
theorem dX10_settleAt_25 : decode cX10_settleAt 25 = .ok (.iand, 1) := by decide +kernel
theorem dX10_settleAt_26 : decode cX10_settleAt 26 = .ok (.ifCond .ne 8, 3) := by decide +kernel
theorem dX10_settleAt_29 : decode cX10_settleAt 29 = .ok (.ldc 70, 2) := by decide +kernel
theorem dX10_settleAt_31 : decode cX10_settleAt 31 = .ok (.goto 15, 3) := by decide +kernel
theorem dX10_settleAt_34 : decode cX10_settleAt 34 = .ok (.aload_n 0, 1) := by decide +kernel
theorem dX10_settleAt_35 : decode cX10_settleAt 35 = .ok (.getfield 45, 3) := by decide +kernel
theorem dX10_settleAt_38 : decode cX10_settleAt 38 = .ok (.iload_n 1, 1) := by decide +kernel
theorem dX10_settleAt_39 : decode cX10_settleAt 39 = .ok (.iload_n 2, 1) := by decide +kernel
theorem dX10_settleAt_40 : decode cX10_settleAt 40 = .ok (.iload_n 3, 1) := by decide +kernel
theorem dX10_settleAt_41 : decode cX10_settleAt 41 = .ok (.iload 7, 2) := by decide +kernel
theorem dX10_settleAt_43 : decode cX10_settleAt 43 = .ok (.invokevirtual 84, 3) := by decide +kernel
theorem dX10_settleAt_46 : decode cX10_settleAt 46 = .ok (.istore 8, 2) := by decide +kernel
theorem dX10_settleAt_48 : decode cX10_settleAt 48 = .ok (.iload 8, 2) := by decide +kernel
theorem dX10_settleAt_50 : decode cX10_settleAt 50 = .ok (.ldc 70, 2) := by decide +kernel
theorem dX10_settleAt_52 : decode cX10_settleAt 52 = .ok (.if_icmp .eq 62, 3) := by decide +kernel
theorem dX10_settleAt_55 : decode cX10_settleAt 55 = .ok (.aload_n 0, 1) := by decide +kernel
theorem dX10_settleAt_56 : decode cX10_settleAt 56 = .ok (.getfield 25, 3) := by decide +kernel
theorem dX10_settleAt_59 : decode cX10_settleAt 59 = .ok (.iload_n 1, 1) := by decide +kernel
theorem dX10_settleAt_60 : decode cX10_settleAt 60 = .ok (.iconst 1, 1) := by decide +kernel
theorem dX10_settleAt_61 : decode cX10_settleAt 61 = .ok (.iadd, 1) := by decide +kernel
theorem dX10_settleAt_62 : decode cX10_settleAt 62 = .ok (.sipush 205, 3) := by decide +kernel
theorem dX10_settleAt_65 : decode cX10_settleAt 65 = .ok (.imul, 1) := by decide +kernel
theorem dX10_settleAt_66 : decode cX10_settleAt 66 = .ok (.iload_n 2, 1) := by decide +kernel
theorem dX10_settleAt_67 : decode cX10_settleAt 67 = .ok (.iload 7, 2) := by decide +kernel
theorem dX10_settleAt_69 : decode cX10_settleAt 69 = .ok (.isub, 1) := by decide +kernel
theorem dX10_settleAt_70 : decode cX10_settleAt 70 = .ok (.aload_n 0, 1) := by decide +kernel
theorem dX10_settleAt_71 : decode cX10_settleAt 71 = .ok (.getfield 45, 3) := by decide +kernel
theorem dX10_settleAt_74 : decode cX10_settleAt 74 = .ok (.iload 7, 2) := by decide +kernel
theorem dX10_settleAt_76 : decode cX10_settleAt 76 = .ok (.invokevirtual 88, 3) := by decide +kernel
theorem dX10_settleAt_79 : decode cX10_settleAt 79 = .ok (.invokestatic 91, 3) := by decide +kernel
theorem dX10_settleAt_82 : decode cX10_settleAt 82 = .ok (.iadd, 1) := by decide +kernel
theorem dX10_settleAt_83 : decode cX10_settleAt 83 = .ok (.iaload, 1) := by decide +kernel
theorem dX10_settleAt_84 : decode cX10_settleAt 84 = .ok (.istore 9, 2) := by decide +kernel
theorem dX10_settleAt_86 : decode cX10_settleAt 86 = .ok (.iload 9, 2) := by decide +kernel
theorem dX10_settleAt_88 : decode cX10_settleAt 88 = .ok (.ldc 70, 2) := by decide +kernel
theorem dX10_settleAt_90 : decode cX10_settleAt 90 = .ok (.if_icmp .eq 24, 3) := by decide +kernel
theorem dX10_settleAt_93 : decode cX10_settleAt 93 = .ok (.iload 8, 2) := by decide +kernel
theorem dX10_settleAt_95 : decode cX10_settleAt 95 = .ok (.iload 9, 2) := by decide +kernel
theorem dX10_settleAt_97 : decode cX10_settleAt 97 = .ok (.iadd, 1) := by decide +kernel
theorem dX10_settleAt_98 : decode cX10_settleAt 98 = .ok (.iload 5, 2) := by decide +kernel
theorem dX10_settleAt_100 : decode cX10_settleAt 100 = .ok (.if_icmp .le 14, 3) := by decide +kernel
theorem dX10_settleAt_103 : decode cX10_settleAt 103 = .ok (.iload 8, 2) := by decide +kernel
theorem dX10_settleAt_105 : decode cX10_settleAt 105 = .ok (.iload 9, 2) := by decide +kernel
theorem dX10_settleAt_107 : decode cX10_settleAt 107 = .ok (.iadd, 1) := by decide +kernel
theorem dX10_settleAt_108 : decode cX10_settleAt 108 = .ok (.istore 5, 2) := by decide +kernel
theorem dX10_settleAt_110 : decode cX10_settleAt 110 = .ok (.iload 7, 2) := by decide +kernel
theorem dX10_settleAt_112 : decode cX10_settleAt 112 = .ok (.istore 6, 2) := by decide +kernel
theorem dX10_settleAt_114 : decode cX10_settleAt 114 = .ok (.iinc 7 1, 3) := by decide +kernel
theorem dX10_settleAt_117 : decode cX10_settleAt 117 = .ok (.goto (-105), 3) := by decide +kernel
theorem dX10_settleAt_120 : decode cX10_settleAt 120 = .ok (.iload_n 1, 1) := by decide +kernel
theorem dX10_settleAt_121 : decode cX10_settleAt 121 = .ok (.sipush 205, 3) := by decide +kernel
theorem dX10_settleAt_124 : decode cX10_settleAt 124 = .ok (.imul, 1) := by decide +kernel
theorem dX10_settleAt_125 : decode cX10_settleAt 125 = .ok (.iload_n 2, 1) := by decide +kernel
theorem dX10_settleAt_126 : decode cX10_settleAt 126 = .ok (.iload_n 3, 1) := by decide +kernel
theorem dX10_settleAt_127 : decode cX10_settleAt 127 = .ok (.invokestatic 91, 3) := by decide +kernel
theorem dX10_settleAt_130 : decode cX10_settleAt 130 = .ok (.iadd, 1) := by decide +kernel
theorem dX10_settleAt_131 : decode cX10_settleAt 131 = .ok (.istore 7, 2) := by decide +kernel
theorem dX10_settleAt_133 : decode cX10_settleAt 133 = .ok (.aload_n 0, 1) := by decide +kernel
theorem dX10_settleAt_134 : decode cX10_settleAt 134 = .ok (.getfield 25, 3) := by decide +kernel
theorem dX10_settleAt_137 : decode cX10_settleAt 137 = .ok (.iload 7, 2) := by decide +kernel
theorem dX10_settleAt_139 : decode cX10_settleAt 139 = .ok (.iload 5, 2) := by decide +kernel
theorem dX10_settleAt_141 : decode cX10_settleAt 141 = .ok (.iastore, 1) := by decide +kernel
theorem dX10_settleAt_142 : decode cX10_settleAt 142 = .ok (.aload_n 0, 1) := by decide +kernel
theorem dX10_settleAt_143 : decode cX10_settleAt 143 = .ok (.getfield 28, 3) := by decide +kernel
theorem dX10_settleAt_146 : decode cX10_settleAt 146 = .ok (.iload 7, 2) := by decide +kernel
theorem dX10_settleAt_148 : decode cX10_settleAt 148 = .ok (.iload 6, 2) := by decide +kernel
theorem dX10_settleAt_150 : decode cX10_settleAt 150 = .ok (.i2b, 1) := by decide +kernel
theorem dX10_settleAt_151 : decode cX10_settleAt 151 = .ok (.bastore, 1) := by decide +kernel
theorem dX10_settleAt_152 : decode cX10_settleAt 152 = .ok (.return_, 1) := by decide +kernel
theorem dX10_mostFrom_0 : decode cX10_mostFrom 0 = .ok (.aload_n 0, 1) := by decide +kernel
theorem dX10_mostFrom_1 : decode cX10_mostFrom 1 = .ok (.getfield 25, 3) := by decide +kernel
theorem dX10_mostFrom_4 : decode cX10_mostFrom 4 = .ok (.iload_n 1, 1) := by decide +kernel
theorem dX10_mostFrom_5 : decode cX10_mostFrom 5 = .ok (.iconst 0, 1) := by decide +kernel
theorem dX10_mostFrom_6 : decode cX10_mostFrom 6 = .ok (.invokestatic 91, 3) := by decide +kernel
theorem dX10_mostFrom_9 : decode cX10_mostFrom 9 = .ok (.iaload, 1) := by decide +kernel
theorem dX10_mostFrom_10 : decode cX10_mostFrom 10 = .ok (.ireturn, 1) := by decide +kernel
theorem dX10_follow_0 : decode cX10_follow 0 = .ok (.aload_n 0, 1) := by decide +kernel
theorem dX10_follow_1 : decode cX10_follow 1 = .ok (.aload_n 0, 1) := by decide +kernel
theorem dX10_follow_2 : decode cX10_follow 2 = .ok (.iload_n 1, 1) := by decide +kernel
theorem dX10_follow_3 : decode cX10_follow 3 = .ok (.invokevirtual 94, 3) := by decide +kernel
theorem dX10_follow_6 : decode cX10_follow 6 = .ok (.putfield 18, 3) := by decide +kernel
theorem dX10_follow_9 : decode cX10_follow 9 = .ok (.aload_n 0, 1) := by decide +kernel
theorem dX10_follow_10 : decode cX10_follow 10 = .ok (.getfield 18, 3) := by decide +kernel
theorem dX10_follow_13 : decode cX10_follow 13 = .ok (.ldc 70, 2) := by decide +kernel
theorem dX10_follow_15 : decode cX10_follow 15 = .ok (.if_icmp .ne 5, 3) := by decide +kernel
theorem dX10_follow_18 : decode cX10_follow 18 = .ok (.iconst 0, 1) := by decide +kernel
theorem dX10_follow_19 : decode cX10_follow 19 = .ok (.ireturn, 1) := by decide +kernel
theorem dX10_follow_20 : decode cX10_follow 20 = .ok (.aload_n 0, 1) := by decide +kernel
theorem dX10_follow_21 : decode cX10_follow 21 = .ok (.getfield 9, 3) := by decide +kernel
theorem dX10_follow_24 : decode cX10_follow 24 = .ok (.bipush 9, 2) := by decide +kernel
theorem dX10_follow_26 : decode cX10_follow 26 = .ok (.invokestatic 49, 3) := by decide +kernel
theorem dX10_follow_29 : decode cX10_follow 29 = .ok (.aload_n 0, 1) := by decide +kernel
theorem dX10_follow_30 : decode cX10_follow 30 = .ok (.iload_n 1, 1) := by decide +kernel
theorem dX10_follow_31 : decode cX10_follow 31 = .ok (.putfield 22, 3) := by decide +kernel
theorem dX10_follow_34 : decode cX10_follow 34 = .ok (.iconst 0, 1) := by decide +kernel
theorem dX10_follow_35 : decode cX10_follow 35 = .ok (.istore_n 2, 1) := by decide +kernel
theorem dX10_follow_36 : decode cX10_follow 36 = .ok (.iconst 0, 1) := by decide +kernel
theorem dX10_follow_37 : decode cX10_follow 37 = .ok (.istore_n 3, 1) := by decide +kernel
theorem dX10_follow_38 : decode cX10_follow 38 = .ok (.iload_n 3, 1) := by decide +kernel
theorem dX10_follow_39 : decode cX10_follow 39 = .ok (.aload_n 0, 1) := by decide +kernel
theorem dX10_follow_40 : decode cX10_follow 40 = .ok (.getfield 45, 3) := by decide +kernel
theorem dX10_follow_43 : decode cX10_follow 43 = .ok (.getfield 55, 3) := by decide +kernel
theorem dX10_follow_46 : decode cX10_follow 46 = .ok (.if_icmp .ge 65, 3) := by decide +kernel
theorem dX10_follow_49 : decode cX10_follow 49 = .ok (.iload_n 3, 1) := by decide +kernel
theorem dX10_follow_50 : decode cX10_follow 50 = .ok (.bipush 12, 2) := by decide +kernel
theorem dX10_follow_52 : decode cX10_follow 52 = .ok (.if_icmp .ge 59, 3) := by decide +kernel
theorem dX10_follow_55 : decode cX10_follow 55 = .ok (.aload_n 0, 1) := by decide +kernel
theorem dX10_follow_56 : decode cX10_follow 56 = .ok (.getfield 28, 3) := by decide +kernel
theorem dX10_follow_59 : decode cX10_follow 59 = .ok (.iload_n 3, 1) := by decide +kernel
theorem dX10_follow_60 : decode cX10_follow 60 = .ok (.sipush 205, 3) := by decide +kernel
theorem dX10_follow_63 : decode cX10_follow 63 = .ok (.imul, 1) := by decide +kernel
theorem dX10_follow_64 : decode cX10_follow 64 = .ok (.aload_n 0, 1) := by decide +kernel
theorem dX10_follow_65 : decode cX10_follow 65 = .ok (.getfield 22, 3) := by decide +kernel
theorem dX10_follow_68 : decode cX10_follow 68 = .ok (.iload_n 2, 1) := by decide +kernel
theorem dX10_follow_69 : decode cX10_follow 69 = .ok (.invokestatic 91, 3) := by decide +kernel
theorem dX10_follow_72 : decode cX10_follow 72 = .ok (.iadd, 1) := by decide +kernel
theorem dX10_follow_73 : decode cX10_follow 73 = .ok (.baload, 1) := by decide +kernel
theorem dX10_follow_74 : decode cX10_follow 74 = .ok (.istore 4, 2) := by decide +kernel
theorem dX10_follow_76 : decode cX10_follow 76 = .ok (.aload_n 0, 1) := by decide +kernel
theorem dX10_follow_77 : decode cX10_follow 77 = .ok (.getfield 9, 3) := by decide +kernel
theorem dX10_follow_80 : decode cX10_follow 80 = .ok (.iload_n 3, 1) := by decide +kernel
theorem dX10_follow_81 : decode cX10_follow 81 = .ok (.iload 4, 2) := by decide +kernel
theorem dX10_follow_83 : decode cX10_follow 83 = .ok (.iastore, 1) := by decide +kernel
theorem dX10_follow_84 : decode cX10_follow 84 = .ok (.aload_n 0, 1) := by decide +kernel
theorem dX10_follow_85 : decode cX10_follow 85 = .ok (.dup, 1) := by decide +kernel
theorem dX10_follow_86 : decode cX10_follow 86 = .ok (.getfield 22, 3) := by decide +kernel
theorem dX10_follow_89 : decode cX10_follow 89 = .ok (.iload 4, 2) := by decide +kernel
theorem dX10_follow_91 : decode cX10_follow 91 = .ok (.isub, 1) := by decide +kernel
theorem dX10_follow_92 : decode cX10_follow 92 = .ok (.putfield 22, 3) := by decide +kernel
theorem dX10_follow_95 : decode cX10_follow 95 = .ok (.aload_n 0, 1) := by decide +kernel
theorem dX10_follow_96 : decode cX10_follow 96 = .ok (.getfield 45, 3) := by decide +kernel
theorem dX10_follow_99 : decode cX10_follow 99 = .ok (.iload 4, 2) := by decide +kernel
theorem dX10_follow_101 : decode cX10_follow 101 = .ok (.invokevirtual 88, 3) := by decide +kernel
theorem dX10_follow_104 : decode cX10_follow 104 = .ok (.istore_n 2, 1) := by decide +kernel
theorem dX10_follow_105 : decode cX10_follow 105 = .ok (.iinc 3 1, 3) := by decide +kernel
theorem dX10_follow_108 : decode cX10_follow 108 = .ok (.goto (-70), 3) := by decide +kernel
theorem dX10_follow_111 : decode cX10_follow 111 = .ok (.iconst 1, 1) := by decide +kernel
theorem dX10_follow_112 : decode cX10_follow 112 = .ok (.ireturn, 1) := by decide +kernel
theorem dX10_tell_0 : decode cX10_tell 0 = .ok (.iload_n 1, 1) := by decide +kernel
theorem dX10_tell_1 : decode cX10_tell 1 = .ok (.bipush 10, 2) := by decide +kernel
theorem dX10_tell_3 : decode cX10_tell 3 = .ok (.if_icmp .ge 19, 3) := by decide +kernel
theorem dX10_tell_6 : decode cX10_tell 6 = .ok (.iload_n 1, 1) := by decide +kernel
theorem dX10_tell_7 : decode cX10_tell 7 = .ok (.ifCond .ne 10, 3) := by decide +kernel
theorem dX10_tell_10 : decode cX10_tell 10 = .ok (.aload_n 0, 1) := by decide +kernel
theorem dX10_tell_11 : decode cX10_tell 11 = .ok (.getfield 18, 3) := by decide +kernel
theorem dX10_tell_14 : decode cX10_tell 14 = .ok (.goto 7, 3) := by decide +kernel
theorem dX10_tell_17 : decode cX10_tell 17 = .ok (.aload_n 0, 1) := by decide +kernel
theorem dX10_tell_18 : decode cX10_tell 18 = .ok (.getfield 22, 3) := by decide +kernel
theorem dX10_tell_21 : decode cX10_tell 21 = .ok (.ireturn, 1) := by decide +kernel
theorem dX10_tell_22 : decode cX10_tell 22 = .ok (.iload_n 1, 1) := by decide +kernel
theorem dX10_tell_23 : decode cX10_tell 23 = .ok (.bipush 10, 2) := by decide +kernel
theorem dX10_tell_25 : decode cX10_tell 25 = .ok (.isub, 1) := by decide +kernel
theorem dX10_tell_26 : decode cX10_tell 26 = .ok (.istore_n 2, 1) := by decide +kernel
theorem dX10_tell_27 : decode cX10_tell 27 = .ok (.iload_n 2, 1) := by decide +kernel
theorem dX10_tell_28 : decode cX10_tell 28 = .ok (.bipush 12, 2) := by decide +kernel
theorem dX10_tell_30 : decode cX10_tell 30 = .ok (.if_icmp .ge 12, 3) := by decide +kernel
theorem dX10_tell_33 : decode cX10_tell 33 = .ok (.aload_n 0, 1) := by decide +kernel
theorem dX10_tell_34 : decode cX10_tell 34 = .ok (.getfield 9, 3) := by decide +kernel
theorem dX10_tell_37 : decode cX10_tell 37 = .ok (.iload_n 2, 1) := by decide +kernel
theorem dX10_tell_38 : decode cX10_tell 38 = .ok (.iaload, 1) := by decide +kernel
theorem dX10_tell_39 : decode cX10_tell 39 = .ok (.goto 5, 3) := by decide +kernel
theorem dX10_tell_42 : decode cX10_tell 42 = .ok (.bipush 9, 2) := by decide +kernel
theorem dX10_tell_44 : decode cX10_tell 44 = .ok (.ireturn, 1) := by decide +kernel
theorem dX10_spread_0 : decode cX10_spread 0 = .ok (.aload_n 0, 1) := by decide +kernel
theorem dX10_spread_1 : decode cX10_spread 1 = .ok (.getfield 32, 3) := by decide +kernel
theorem dX10_spread_4 : decode cX10_spread 4 = .ok (.ldc 70, 2) := by decide +kernel
theorem dX10_spread_6 : decode cX10_spread 6 = .ok (.invokestatic 49, 3) := by decide +kernel
theorem dX10_spread_9 : decode cX10_spread 9 = .ok (.iconst 0, 1) := by decide +kernel
theorem dX10_spread_10 : decode cX10_spread 10 = .ok (.istore_n 3, 1) := by decide +kernel
theorem dX10_spread_11 : decode cX10_spread 11 = .ok (.iload_n 3, 1) := by decide +kernel
theorem dX10_spread_12 : decode cX10_spread 12 = .ok (.bipush 41, 2) := by decide +kernel
theorem dX10_spread_14 : decode cX10_spread 14 = .ok (.if_icmp .ge 31, 3) := by decide +kernel
theorem dX10_spread_17 : decode cX10_spread 17 = .ok (.iload_n 3, 1) := by decide +kernel
theorem dX10_spread_18 : decode cX10_spread 18 = .ok (.aload_n 1, 1) := by decide +kernel
theorem dX10_spread_19 : decode cX10_spread 19 = .ok (.arraylength, 1) := by decide +kernel
theorem dX10_spread_20 : decode cX10_spread 20 = .ok (.if_icmp .ge 25, 3) := by decide +kernel
theorem dX10_spread_23 : decode cX10_spread 23 = .ok (.aload_n 0, 1) := by decide +kernel
theorem dX10_spread_24 : decode cX10_spread 24 = .ok (.getfield 32, 3) := by decide +kernel
theorem dX10_spread_27 : decode cX10_spread 27 = .ok (.iload_n 3, 1) := by decide +kernel
theorem dX10_spread_28 : decode cX10_spread 28 = .ok (.bipush 20, 2) := by decide +kernel
theorem dX10_spread_30 : decode cX10_spread 30 = .ok (.isub, 1) := by decide +kernel
theorem dX10_spread_31 : decode cX10_spread 31 = .ok (.iconst 0, 1) := by decide +kernel
theorem dX10_spread_32 : decode cX10_spread 32 = .ok (.invokestatic 91, 3) := by decide +kernel
theorem dX10_spread_35 : decode cX10_spread 35 = .ok (.aload_n 1, 1) := by decide +kernel
theorem dX10_spread_36 : decode cX10_spread 36 = .ok (.iload_n 3, 1) := by decide +kernel
theorem dX10_spread_37 : decode cX10_spread 37 = .ok (.iaload, 1) := by decide +kernel
theorem dX10_spread_38 : decode cX10_spread 38 = .ok (.iastore, 1) := by decide +kernel
theorem dX10_spread_39 : decode cX10_spread 39 = .ok (.iinc 3 1, 3) := by decide +kernel
theorem dX10_spread_42 : decode cX10_spread 42 = .ok (.goto (-31), 3) := by decide +kernel
theorem dX10_spread_45 : decode cX10_spread 45 = .ok (.iconst 0, 1) := by decide +kernel
theorem dX10_spread_46 : decode cX10_spread 46 = .ok (.istore_n 3, 1) := by decide +kernel
theorem dX10_spread_47 : decode cX10_spread 47 = .ok (.iload_n 3, 1) := by decide +kernel
theorem dX10_spread_48 : decode cX10_spread 48 = .ok (.aload_n 0, 1) := by decide +kernel
theorem dX10_spread_49 : decode cX10_spread 49 = .ok (.getfield 45, 3) := by decide +kernel
theorem dX10_spread_52 : decode cX10_spread 52 = .ok (.getfield 55, 3) := by decide +kernel
theorem dX10_spread_55 : decode cX10_spread 55 = .ok (.if_icmp .ge 14, 3) := by decide +kernel
theorem dX10_spread_58 : decode cX10_spread 58 = .ok (.aload_n 0, 1) := by decide +kernel
theorem dX10_spread_59 : decode cX10_spread 59 = .ok (.iload_n 3, 1) := by decide +kernel
theorem dX10_spread_60 : decode cX10_spread 60 = .ok (.invokevirtual 97, 3) := by decide +kernel
theorem dX10_spread_63 : decode cX10_spread 63 = .ok (.iinc 3 1, 3) := by decide +kernel
theorem dX10_spread_66 : decode cX10_spread 66 = .ok (.goto (-19), 3) := by decide +kernel
theorem dX10_spread_69 : decode cX10_spread 69 = .ok (.aload_n 2, 1) := by decide +kernel
theorem dX10_spread_70 : decode cX10_spread 70 = .ok (.ldc 70, 2) := by decide +kernel
theorem dX10_spread_72 : decode cX10_spread 72 = .ok (.invokestatic 49, 3) := by decide +kernel
theorem dX10_spread_75 : decode cX10_spread 75 = .ok (.iconst 0, 1) := by decide +kernel
theorem dX10_spread_76 : decode cX10_spread 76 = .ok (.istore_n 3, 1) := by decide +kernel
theorem dX10_spread_77 : decode cX10_spread 77 = .ok (.iload_n 3, 1) := by decide +kernel
theorem dX10_spread_78 : decode cX10_spread 78 = .ok (.sipush 205, 3) := by decide +kernel
theorem dX10_spread_81 : decode cX10_spread 81 = .ok (.if_icmp .ge 36, 3) := by decide +kernel
theorem dX10_spread_84 : decode cX10_spread 84 = .ok (.iload_n 3, 1) := by decide +kernel
theorem dX10_spread_85 : decode cX10_spread 85 = .ok (.iconst 5, 1) := by decide +kernel
theorem dX10_spread_86 : decode cX10_spread 86 = .ok (.idiv, 1) := by decide +kernel
theorem dX10_spread_87 : decode cX10_spread 87 = .ok (.aload_n 2, 1) := by decide +kernel
theorem dX10_spread_88 : decode cX10_spread 88 = .ok (.arraylength, 1) := by decide +kernel
theorem dX10_spread_89 : decode cX10_spread 89 = .ok (.if_icmp .ge 28, 3) := by decide +kernel
theorem dX10_spread_92 : decode cX10_spread 92 = .ok (.aload_n 2, 1) := by decide +kernel
theorem dX10_spread_93 : decode cX10_spread 93 = .ok (.iload_n 3, 1) := by decide +kernel
theorem dX10_spread_94 : decode cX10_spread 94 = .ok (.iconst 5, 1) := by decide +kernel
theorem dX10_spread_95 : decode cX10_spread 95 = .ok (.idiv, 1) := by decide +kernel
theorem dX10_spread_96 : decode cX10_spread 96 = .ok (.aload_n 2, 1) := by decide +kernel
theorem dX10_spread_97 : decode cX10_spread 97 = .ok (.iload_n 3, 1) := by decide +kernel
theorem dX10_spread_98 : decode cX10_spread 98 = .ok (.iconst 5, 1) := by decide +kernel
theorem dX10_spread_99 : decode cX10_spread 99 = .ok (.idiv, 1) := by decide +kernel
theorem dX10_spread_100 : decode cX10_spread 100 = .ok (.iaload, 1) := by decide +kernel
theorem dX10_spread_101 : decode cX10_spread 101 = .ok (.aload_n 0, 1) := by decide +kernel
theorem dX10_spread_102 : decode cX10_spread 102 = .ok (.getfield 32, 3) := by decide +kernel
theorem dX10_spread_105 : decode cX10_spread 105 = .ok (.iload_n 3, 1) := by decide +kernel
theorem dX10_spread_106 : decode cX10_spread 106 = .ok (.iaload, 1) := by decide +kernel
theorem dX10_spread_107 : decode cX10_spread 107 = .ok (.invokestatic 74, 3) := by decide +kernel
theorem dX10_spread_110 : decode cX10_spread 110 = .ok (.iastore, 1) := by decide +kernel
theorem dX10_spread_111 : decode cX10_spread 111 = .ok (.iinc 3 1, 3) := by decide +kernel
theorem dX10_spread_114 : decode cX10_spread 114 = .ok (.goto (-37), 3) := by decide +kernel
theorem dX10_spread_117 : decode cX10_spread 117 = .ok (.return_, 1) := by decide +kernel
theorem dX10_spreadBar_0 : decode cX10_spreadBar 0 = .ok (.aload_n 0, 1) := by decide +kernel
theorem dX10_spreadBar_1 : decode cX10_spreadBar 1 = .ok (.getfield 35, 3) := by decide +kernel
theorem dX10_spreadBar_4 : decode cX10_spreadBar 4 = .ok (.ldc 70, 2) := by decide +kernel
theorem dX10_spreadBar_6 : decode cX10_spreadBar 6 = .ok (.invokestatic 49, 3) := by decide +kernel
theorem dX10_spreadBar_9 : decode cX10_spreadBar 9 = .ok (.iconst 0, 1) := by decide +kernel
theorem dX10_spreadBar_10 : decode cX10_spreadBar 10 = .ok (.istore_n 2, 1) := by decide +kernel
theorem dX10_spreadBar_11 : decode cX10_spreadBar 11 = .ok (.iload_n 2, 1) := by decide +kernel
theorem dX10_spreadBar_12 : decode cX10_spreadBar 12 = .ok (.sipush 205, 3) := by decide +kernel
theorem dX10_spreadBar_15 : decode cX10_spreadBar 15 = .ok (.if_icmp .ge 113, 3) := by decide +kernel
theorem dX10_spreadBar_18 : decode cX10_spreadBar 18 = .ok (.iload_n 2, 1) := by decide +kernel
theorem dX10_spreadBar_19 : decode cX10_spreadBar 19 = .ok (.invokestatic 66, 3) := by decide +kernel
theorem dX10_spreadBar_22 : decode cX10_spreadBar 22 = .ok (.istore_n 3, 1) := by decide +kernel
theorem dX10_spreadBar_23 : decode cX10_spreadBar 23 = .ok (.iload_n 2, 1) := by decide +kernel
theorem dX10_spreadBar_24 : decode cX10_spreadBar 24 = .ok (.invokestatic 101, 3) := by decide +kernel
theorem dX10_spreadBar_27 : decode cX10_spreadBar 27 = .ok (.istore 4, 2) := by decide +kernel
theorem dX10_spreadBar_29 : decode cX10_spreadBar 29 = .ok (.bipush (-2), 2) := by decide +kernel
theorem dX10_spreadBar_31 : decode cX10_spreadBar 31 = .ok (.istore 5, 2) := by decide +kernel
theorem dX10_spreadBar_33 : decode cX10_spreadBar 33 = .ok (.iload 5, 2) := by decide +kernel
theorem dX10_spreadBar_35 : decode cX10_spreadBar 35 = .ok (.iconst 2, 1) := by decide +kernel
theorem dX10_spreadBar_36 : decode cX10_spreadBar 36 = .ok (.if_icmp .gt 86, 3) := by decide +kernel
theorem dX10_spreadBar_39 : decode cX10_spreadBar 39 = .ok (.aload_n 0, 1) := by decide +kernel
theorem dX10_spreadBar_40 : decode cX10_spreadBar 40 = .ok (.getfield 32, 3) := by decide +kernel
theorem dX10_spreadBar_43 : decode cX10_spreadBar 43 = .ok (.iload_n 2, 1) := by decide +kernel
theorem dX10_spreadBar_44 : decode cX10_spreadBar 44 = .ok (.iaload, 1) := by decide +kernel
theorem dX10_spreadBar_45 : decode cX10_spreadBar 45 = .ok (.ldc 70, 2) := by decide +kernel
theorem dX10_spreadBar_47 : decode cX10_spreadBar 47 = .ok (.if_icmp .eq 75, 3) := by decide +kernel
theorem dX10_spreadBar_50 : decode cX10_spreadBar 50 = .ok (.aload_n 0, 1) := by decide +kernel
theorem dX10_spreadBar_51 : decode cX10_spreadBar 51 = .ok (.getfield 45, 3) := by decide +kernel
theorem dX10_spreadBar_54 : decode cX10_spreadBar 54 = .ok (.iload_n 1, 1) := by decide +kernel
theorem dX10_spreadBar_55 : decode cX10_spreadBar 55 = .ok (.iload_n 3, 1) := by decide +kernel
theorem dX10_spreadBar_56 : decode cX10_spreadBar 56 = .ok (.iload 4, 2) := by decide +kernel
theorem dX10_spreadBar_58 : decode cX10_spreadBar 58 = .ok (.iload 5, 2) := by decide +kernel
theorem dX10_spreadBar_60 : decode cX10_spreadBar 60 = .ok (.invokevirtual 84, 3) := by decide +kernel
theorem dX10_spreadBar_63 : decode cX10_spreadBar 63 = .ok (.istore 6, 2) := by decide +kernel
theorem dX10_spreadBar_65 : decode cX10_spreadBar 65 = .ok (.iload 6, 2) := by decide +kernel
theorem dX10_spreadBar_67 : decode cX10_spreadBar 67 = .ok (.ldc 70, 2) := by decide +kernel
theorem dX10_spreadBar_69 : decode cX10_spreadBar 69 = .ok (.if_icmp .eq 47, 3) := by decide +kernel
theorem dX10_spreadBar_72 : decode cX10_spreadBar 72 = .ok (.iload_n 3, 1) := by decide +kernel
theorem dX10_spreadBar_73 : decode cX10_spreadBar 73 = .ok (.iload 5, 2) := by decide +kernel
theorem dX10_spreadBar_75 : decode cX10_spreadBar 75 = .ok (.isub, 1) := by decide +kernel
theorem dX10_spreadBar_76 : decode cX10_spreadBar 76 = .ok (.aload_n 0, 1) := by decide +kernel
theorem dX10_spreadBar_77 : decode cX10_spreadBar 77 = .ok (.getfield 45, 3) := by decide +kernel
theorem dX10_spreadBar_80 : decode cX10_spreadBar 80 = .ok (.iload 5, 2) := by decide +kernel
theorem dX10_spreadBar_82 : decode cX10_spreadBar 82 = .ok (.invokevirtual 88, 3) := by decide +kernel
theorem dX10_spreadBar_85 : decode cX10_spreadBar 85 = .ok (.invokestatic 91, 3) := by decide +kernel
theorem dX10_spreadBar_88 : decode cX10_spreadBar 88 = .ok (.istore 7, 2) := by decide +kernel
theorem dX10_spreadBar_90 : decode cX10_spreadBar 90 = .ok (.aload_n 0, 1) := by decide +kernel
theorem dX10_spreadBar_91 : decode cX10_spreadBar 91 = .ok (.getfield 35, 3) := by decide +kernel
theorem dX10_spreadBar_94 : decode cX10_spreadBar 94 = .ok (.iload 7, 2) := by decide +kernel
theorem dX10_spreadBar_96 : decode cX10_spreadBar 96 = .ok (.aload_n 0, 1) := by decide +kernel
theorem dX10_spreadBar_97 : decode cX10_spreadBar 97 = .ok (.getfield 35, 3) := by decide +kernel
theorem dX10_spreadBar_100 : decode cX10_spreadBar 100 = .ok (.iload 7, 2) := by decide +kernel
theorem dX10_spreadBar_102 : decode cX10_spreadBar 102 = .ok (.iaload, 1) := by decide +kernel
theorem dX10_spreadBar_103 : decode cX10_spreadBar 103 = .ok (.aload_n 0, 1) := by decide +kernel
theorem dX10_spreadBar_104 : decode cX10_spreadBar 104 = .ok (.getfield 32, 3) := by decide +kernel
theorem dX10_spreadBar_107 : decode cX10_spreadBar 107 = .ok (.iload_n 2, 1) := by decide +kernel
theorem dX10_spreadBar_108 : decode cX10_spreadBar 108 = .ok (.iaload, 1) := by decide +kernel
theorem dX10_spreadBar_109 : decode cX10_spreadBar 109 = .ok (.iload 6, 2) := by decide +kernel
theorem dX10_spreadBar_111 : decode cX10_spreadBar 111 = .ok (.iadd, 1) := by decide +kernel
theorem dX10_spreadBar_112 : decode cX10_spreadBar 112 = .ok (.invokestatic 74, 3) := by decide +kernel
theorem dX10_spreadBar_115 : decode cX10_spreadBar 115 = .ok (.iastore, 1) := by decide +kernel
theorem dX10_spreadBar_116 : decode cX10_spreadBar 116 = .ok (.iinc 5 1, 3) := by decide +kernel
theorem dX10_spreadBar_119 : decode cX10_spreadBar 119 = .ok (.goto (-86), 3) := by decide +kernel
theorem dX10_spreadBar_122 : decode cX10_spreadBar 122 = .ok (.iinc 2 1, 3) := by decide +kernel
theorem dX10_spreadBar_125 : decode cX10_spreadBar 125 = .ok (.goto (-114), 3) := by decide +kernel
theorem dX10_spreadBar_128 : decode cX10_spreadBar 128 = .ok (.aload_n 0, 1) := by decide +kernel
theorem dX10_spreadBar_129 : decode cX10_spreadBar 129 = .ok (.getfield 32, 3) := by decide +kernel
theorem dX10_spreadBar_132 : decode cX10_spreadBar 132 = .ok (.astore_n 2, 1) := by decide +kernel
theorem dX10_spreadBar_133 : decode cX10_spreadBar 133 = .ok (.aload_n 0, 1) := by decide +kernel
theorem dX10_spreadBar_134 : decode cX10_spreadBar 134 = .ok (.aload_n 0, 1) := by decide +kernel
theorem dX10_spreadBar_135 : decode cX10_spreadBar 135 = .ok (.getfield 35, 3) := by decide +kernel
theorem dX10_spreadBar_138 : decode cX10_spreadBar 138 = .ok (.putfield 32, 3) := by decide +kernel
theorem dX10_spreadBar_141 : decode cX10_spreadBar 141 = .ok (.aload_n 0, 1) := by decide +kernel
theorem dX10_spreadBar_142 : decode cX10_spreadBar 142 = .ok (.aload_n 2, 1) := by decide +kernel
theorem dX10_spreadBar_143 : decode cX10_spreadBar 143 = .ok (.putfield 35, 3) := by decide +kernel
theorem dX10_spreadBar_146 : decode cX10_spreadBar 146 = .ok (.return_, 1) := by decide +kernel
theorem dX10_howMany_0 : decode cX10_howMany 0 = .ok (.aload_n 0, 1) := by decide +kernel
theorem dX10_howMany_1 : decode cX10_howMany 1 = .ok (.getfield 38, 3) := by decide +kernel
theorem dX10_howMany_4 : decode cX10_howMany 4 = .ok (.lconst 0, 1) := by decide +kernel
theorem dX10_howMany_5 : decode cX10_howMany 5 = .ok (.invokestatic 104, 3) := by decide +kernel
theorem dX10_howMany_8 : decode cX10_howMany 8 = .ok (.aload_n 0, 1) := by decide +kernel
theorem dX10_howMany_9 : decode cX10_howMany 9 = .ok (.getfield 38, 3) := by decide +kernel
theorem dX10_howMany_12 : decode cX10_howMany 12 = .ok (.iload_n 1, 1) := by decide +kernel
theorem dX10_howMany_13 : decode cX10_howMany 13 = .ok (.iconst 0, 1) := by decide +kernel
theorem dX10_howMany_14 : decode cX10_howMany 14 = .ok (.invokestatic 91, 3) := by decide +kernel
theorem dX10_howMany_17 : decode cX10_howMany 17 = .ok (.lconst 1, 1) := by decide +kernel
theorem dX10_howMany_18 : decode cX10_howMany 18 = .ok (.lastore, 1) := by decide +kernel
theorem dX10_howMany_19 : decode cX10_howMany 19 = .ok (.iconst 0, 1) := by decide +kernel
theorem dX10_howMany_20 : decode cX10_howMany 20 = .ok (.istore 4, 2) := by decide +kernel
theorem dX10_howMany_22 : decode cX10_howMany 22 = .ok (.iload 4, 2) := by decide +kernel
theorem dX10_howMany_24 : decode cX10_howMany 24 = .ok (.aload_n 0, 1) := by decide +kernel
theorem dX10_howMany_25 : decode cX10_howMany 25 = .ok (.getfield 45, 3) := by decide +kernel
theorem dX10_howMany_28 : decode cX10_howMany 28 = .ok (.getfield 55, 3) := by decide +kernel
theorem dX10_howMany_31 : decode cX10_howMany 31 = .ok (.if_icmp .ge 26, 3) := by decide +kernel
theorem dX10_howMany_34 : decode cX10_howMany 34 = .ok (.iload 4, 2) := by decide +kernel
theorem dX10_howMany_36 : decode cX10_howMany 36 = .ok (.aload_n 3, 1) := by decide +kernel
theorem dX10_howMany_37 : decode cX10_howMany 37 = .ok (.arraylength, 1) := by decide +kernel
theorem dX10_howMany_38 : decode cX10_howMany 38 = .ok (.if_icmp .ge 19, 3) := by decide +kernel
theorem dX10_howMany_41 : decode cX10_howMany 41 = .ok (.aload_n 0, 1) := by decide +kernel
theorem dX10_howMany_42 : decode cX10_howMany 42 = .ok (.iload 4, 2) := by decide +kernel
theorem dX10_howMany_44 : decode cX10_howMany 44 = .ok (.aload_n 3, 1) := by decide +kernel
theorem dX10_howMany_45 : decode cX10_howMany 45 = .ok (.iload 4, 2) := by decide +kernel
theorem dX10_howMany_47 : decode cX10_howMany 47 = .ok (.iaload, 1) := by decide +kernel
theorem dX10_howMany_48 : decode cX10_howMany 48 = .ok (.invokevirtual 107, 3) := by decide +kernel
theorem dX10_howMany_51 : decode cX10_howMany 51 = .ok (.iinc 4 1, 3) := by decide +kernel
theorem dX10_howMany_54 : decode cX10_howMany 54 = .ok (.goto (-32), 3) := by decide +kernel
theorem dX10_howMany_57 : decode cX10_howMany 57 = .ok (.lconst 0, 1) := by decide +kernel
theorem dX10_howMany_58 : decode cX10_howMany 58 = .ok (.lstore 4, 2) := by decide +kernel
theorem dX10_howMany_60 : decode cX10_howMany 60 = .ok (.iconst 0, 1) := by decide +kernel
theorem dX10_howMany_61 : decode cX10_howMany 61 = .ok (.istore 6, 2) := by decide +kernel
theorem dX10_howMany_63 : decode cX10_howMany 63 = .ok (.iload 6, 2) := by decide +kernel
theorem dX10_howMany_65 : decode cX10_howMany 65 = .ok (.sipush 205, 3) := by decide +kernel
theorem dX10_howMany_68 : decode cX10_howMany 68 = .ok (.if_icmp .ge 36, 3) := by decide +kernel
theorem dX10_howMany_71 : decode cX10_howMany 71 = .ok (.iload_n 2, 1) := by decide +kernel
theorem dX10_howMany_72 : decode cX10_howMany 72 = .ok (.bipush 99, 2) := by decide +kernel
theorem dX10_howMany_74 : decode cX10_howMany 74 = .ok (.if_icmp .eq 12, 3) := by decide +kernel
theorem dX10_howMany_77 : decode cX10_howMany 77 = .ok (.iload 6, 2) := by decide +kernel
theorem dX10_howMany_79 : decode cX10_howMany 79 = .ok (.invokestatic 66, 3) := by decide +kernel
theorem dX10_howMany_82 : decode cX10_howMany 82 = .ok (.iload_n 2, 1) := by decide +kernel
theorem dX10_howMany_83 : decode cX10_howMany 83 = .ok (.if_icmp .ne 15, 3) := by decide +kernel
theorem dX10_howMany_86 : decode cX10_howMany 86 = .ok (.lload 4, 2) := by decide +kernel
theorem dX10_howMany_88 : decode cX10_howMany 88 = .ok (.aload_n 0, 1) := by decide +kernel
theorem dX10_howMany_89 : decode cX10_howMany 89 = .ok (.getfield 38, 3) := by decide +kernel
theorem dX10_howMany_92 : decode cX10_howMany 92 = .ok (.iload 6, 2) := by decide +kernel
theorem dX10_howMany_94 : decode cX10_howMany 94 = .ok (.laload, 1) := by decide +kernel
theorem dX10_howMany_95 : decode cX10_howMany 95 = .ok (.ladd, 1) := by decide +kernel
theorem dX10_howMany_96 : decode cX10_howMany 96 = .ok (.lstore 4, 2) := by decide +kernel
theorem dX10_howMany_98 : decode cX10_howMany 98 = .ok (.iinc 6 1, 3) := by decide +kernel
theorem dX10_howMany_101 : decode cX10_howMany 101 = .ok (.goto (-38), 3) := by decide +kernel
theorem dX10_howMany_104 : decode cX10_howMany 104 = .ok (.lload 4, 2) := by decide +kernel
theorem dX10_howMany_106 : decode cX10_howMany 106 = .ok (.lreturn, 1) := by decide +kernel
theorem dX10_countBar_0 : decode cX10_countBar 0 = .ok (.aload_n 0, 1) := by decide +kernel
theorem dX10_countBar_1 : decode cX10_countBar 1 = .ok (.getfield 42, 3) := by decide +kernel
theorem dX10_countBar_4 : decode cX10_countBar 4 = .ok (.lconst 0, 1) := by decide +kernel
theorem dX10_countBar_5 : decode cX10_countBar 5 = .ok (.invokestatic 104, 3) := by decide +kernel
theorem dX10_countBar_8 : decode cX10_countBar 8 = .ok (.iconst 0, 1) := by decide +kernel
theorem dX10_countBar_9 : decode cX10_countBar 9 = .ok (.istore_n 3, 1) := by decide +kernel
theorem dX10_countBar_10 : decode cX10_countBar 10 = .ok (.iload_n 3, 1) := by decide +kernel
theorem dX10_countBar_11 : decode cX10_countBar 11 = .ok (.sipush 205, 3) := by decide +kernel
theorem dX10_countBar_14 : decode cX10_countBar 14 = .ok (.if_icmp .ge 108, 3) := by decide +kernel
theorem dX10_countBar_17 : decode cX10_countBar 17 = .ok (.iload_n 3, 1) := by decide +kernel
theorem dX10_countBar_18 : decode cX10_countBar 18 = .ok (.invokestatic 66, 3) := by decide +kernel
theorem dX10_countBar_21 : decode cX10_countBar 21 = .ok (.istore 4, 2) := by decide +kernel
theorem dX10_countBar_23 : decode cX10_countBar 23 = .ok (.iload_n 3, 1) := by decide +kernel
theorem dX10_countBar_24 : decode cX10_countBar 24 = .ok (.invokestatic 101, 3) := by decide +kernel
theorem dX10_countBar_27 : decode cX10_countBar 27 = .ok (.istore 5, 2) := by decide +kernel
theorem dX10_countBar_29 : decode cX10_countBar 29 = .ok (.bipush (-2), 2) := by decide +kernel
theorem dX10_countBar_31 : decode cX10_countBar 31 = .ok (.istore 6, 2) := by decide +kernel
theorem dX10_countBar_33 : decode cX10_countBar 33 = .ok (.iload 6, 2) := by decide +kernel
theorem dX10_countBar_35 : decode cX10_countBar 35 = .ok (.iconst 2, 1) := by decide +kernel
theorem dX10_countBar_36 : decode cX10_countBar 36 = .ok (.if_icmp .gt 80, 3) := by decide +kernel
theorem dX10_countBar_39 : decode cX10_countBar 39 = .ok (.aload_n 0, 1) := by decide +kernel
theorem dX10_countBar_40 : decode cX10_countBar 40 = .ok (.getfield 38, 3) := by decide +kernel
theorem dX10_countBar_43 : decode cX10_countBar 43 = .ok (.iload_n 3, 1) := by decide +kernel
theorem dX10_countBar_44 : decode cX10_countBar 44 = .ok (.laload, 1) := by decide +kernel
theorem dX10_countBar_45 : decode cX10_countBar 45 = .ok (.lconst 0, 1) := by decide +kernel
theorem dX10_countBar_46 : decode cX10_countBar 46 = .ok (.lcmp, 1) := by decide +kernel
theorem dX10_countBar_47 : decode cX10_countBar 47 = .ok (.ifCond .eq 69, 3) := by decide +kernel
theorem dX10_countBar_50 : decode cX10_countBar 50 = .ok (.iload_n 2, 1) := by decide +kernel
theorem dX10_countBar_51 : decode cX10_countBar 51 = .ok (.iload 6, 2) := by decide +kernel
theorem dX10_countBar_53 : decode cX10_countBar 53 = .ok (.invokestatic 81, 3) := by decide +kernel
theorem dX10_countBar_56 : decode cX10_countBar 56 = .ok (.iand, 1) := by decide +kernel
theorem dX10_countBar_57 : decode cX10_countBar 57 = .ok (.ifCond .eq 53, 3) := by decide +kernel
theorem dX10_countBar_60 : decode cX10_countBar 60 = .ok (.aload_n 0, 1) := by decide +kernel
theorem dX10_countBar_61 : decode cX10_countBar 61 = .ok (.getfield 45, 3) := by decide +kernel
theorem dX10_countBar_64 : decode cX10_countBar 64 = .ok (.iload_n 1, 1) := by decide +kernel
theorem dX10_countBar_65 : decode cX10_countBar 65 = .ok (.iload 4, 2) := by decide +kernel
theorem dX10_countBar_67 : decode cX10_countBar 67 = .ok (.iload 5, 2) := by decide +kernel
theorem dX10_countBar_69 : decode cX10_countBar 69 = .ok (.iload 6, 2) := by decide +kernel
theorem dX10_countBar_71 : decode cX10_countBar 71 = .ok (.invokevirtual 84, 3) := by decide +kernel
theorem dX10_countBar_74 : decode cX10_countBar 74 = .ok (.ldc 70, 2) := by decide +kernel
theorem dX10_countBar_76 : decode cX10_countBar 76 = .ok (.if_icmp .eq 34, 3) := by decide +kernel
theorem dX10_countBar_79 : decode cX10_countBar 79 = .ok (.aload_n 0, 1) := by decide +kernel
theorem dX10_countBar_80 : decode cX10_countBar 80 = .ok (.getfield 42, 3) := by decide +kernel
theorem dX10_countBar_83 : decode cX10_countBar 83 = .ok (.iload 4, 2) := by decide +kernel
theorem dX10_countBar_85 : decode cX10_countBar 85 = .ok (.iload 6, 2) := by decide +kernel
theorem dX10_countBar_87 : decode cX10_countBar 87 = .ok (.isub, 1) := by decide +kernel
theorem dX10_countBar_88 : decode cX10_countBar 88 = .ok (.aload_n 0, 1) := by decide +kernel
theorem dX10_countBar_89 : decode cX10_countBar 89 = .ok (.getfield 45, 3) := by decide +kernel
theorem dX10_countBar_92 : decode cX10_countBar 92 = .ok (.iload 6, 2) := by decide +kernel
theorem dX10_countBar_94 : decode cX10_countBar 94 = .ok (.invokevirtual 88, 3) := by decide +kernel
theorem dX10_countBar_97 : decode cX10_countBar 97 = .ok (.invokestatic 91, 3) := by decide +kernel
theorem dX10_countBar_100 : decode cX10_countBar 100 = .ok (.dup2, 1) := by decide +kernel
theorem dX10_countBar_101 : decode cX10_countBar 101 = .ok (.laload, 1) := by decide +kernel
theorem dX10_countBar_102 : decode cX10_countBar 102 = .ok (.aload_n 0, 1) := by decide +kernel
theorem dX10_countBar_103 : decode cX10_countBar 103 = .ok (.getfield 38, 3) := by decide +kernel
theorem dX10_countBar_106 : decode cX10_countBar 106 = .ok (.iload_n 3, 1) := by decide +kernel
theorem dX10_countBar_107 : decode cX10_countBar 107 = .ok (.laload, 1) := by decide +kernel
theorem dX10_countBar_108 : decode cX10_countBar 108 = .ok (.ladd, 1) := by decide +kernel
theorem dX10_countBar_109 : decode cX10_countBar 109 = .ok (.lastore, 1) := by decide +kernel
theorem dX10_countBar_110 : decode cX10_countBar 110 = .ok (.iinc 6 1, 3) := by decide +kernel
theorem dX10_countBar_113 : decode cX10_countBar 113 = .ok (.goto (-80), 3) := by decide +kernel
theorem dX10_countBar_116 : decode cX10_countBar 116 = .ok (.iinc 3 1, 3) := by decide +kernel
theorem dX10_countBar_119 : decode cX10_countBar 119 = .ok (.goto (-109), 3) := by decide +kernel
theorem dX10_countBar_122 : decode cX10_countBar 122 = .ok (.aload_n 0, 1) := by decide +kernel
theorem dX10_countBar_123 : decode cX10_countBar 123 = .ok (.getfield 38, 3) := by decide +kernel
theorem dX10_countBar_126 : decode cX10_countBar 126 = .ok (.astore_n 3, 1) := by decide +kernel
theorem dX10_countBar_127 : decode cX10_countBar 127 = .ok (.aload_n 0, 1) := by decide +kernel
theorem dX10_countBar_128 : decode cX10_countBar 128 = .ok (.aload_n 0, 1) := by decide +kernel
theorem dX10_countBar_129 : decode cX10_countBar 129 = .ok (.getfield 42, 3) := by decide +kernel
theorem dX10_countBar_132 : decode cX10_countBar 132 = .ok (.putfield 38, 3) := by decide +kernel
theorem dX10_countBar_135 : decode cX10_countBar 135 = .ok (.aload_n 0, 1) := by decide +kernel
theorem dX10_countBar_136 : decode cX10_countBar 136 = .ok (.aload_n 3, 1) := by decide +kernel
theorem dX10_countBar_137 : decode cX10_countBar 137 = .ok (.putfield 42, 3) := by decide +kernel
theorem dX10_countBar_140 : decode cX10_countBar 140 = .ok (.return_, 1) := by decide +kernel

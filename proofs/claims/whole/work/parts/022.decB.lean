theorem dX11_init_0 : decode cX11_init 0 = .ok (.aload_n 0, 1) := by decide +kernel
theorem dX11_init_1 : decode cX11_init 1 = .ok (.invokespecial 5, 3) := by decide +kernel
theorem dX11_init_4 : decode cX11_init 4 = .ok (.aload_n 0, 1) := by decide +kernel
theorem dX11_init_5 : decode cX11_init 5 = .ok (.sipush 900, 3) := by decide +kernel
theorem dX11_init_8 : decode cX11_init 8 = .ok (.newarray .byte, 2) := by decide +kernel
theorem dX11_init_10 : decode cX11_init 10 = .ok (.putfield 11, 3) := by decide +kernel
theorem dX11_init_13 : decode cX11_init 13 = .ok (.aload_n 0, 1) := by decide +kernel
theorem dX11_init_14 : decode cX11_init 14 = .ok (.iconst 0, 1) := by decide +kernel
theorem dX11_init_15 : decode cX11_init 15 = .ok (.putfield 15, 3) := by decide +kernel
theorem dX11_init_18 : decode cX11_init 18 = .ok (.aload_n 0, 1) := by decide +kernel
theorem dX11_init_19 : decode cX11_init 19 = .ok (.new 19, 3) := by decide +kernel
theorem dX11_init_22 : decode cX11_init 22 = .ok (.dup, 1) := by decide +kernel
theorem dX11_init_23 : decode cX11_init 23 = .ok (.invokespecial 21, 3) := by decide +kernel
theorem dX11_init_26 : decode cX11_init 26 = .ok (.putfield 22, 3) := by decide +kernel
theorem dX11_init_29 : decode cX11_init 29 = .ok (.aload_n 0, 1) := by decide +kernel
theorem dX11_init_30 : decode cX11_init 30 = .ok (.iconst 4, 1) := by decide +kernel
theorem dX11_init_31 : decode cX11_init 31 = .ok (.anewarray 26, 3) := by decide +kernel
theorem dX11_init_34 : decode cX11_init 34 = .ok (.putfield 28, 3) := by decide +kernel
theorem dX11_init_37 : decode cX11_init 37 = .ok (.aload_n 0, 1) := by decide +kernel
theorem dX11_init_38 : decode cX11_init 38 = .ok (.new 32, 3) := by decide +kernel
theorem dX11_init_41 : decode cX11_init 41 = .ok (.dup, 1) := by decide +kernel
theorem dX11_init_42 : decode cX11_init 42 = .ok (.invokespecial 34, 3) := by decide +kernel
theorem dX11_init_45 : decode cX11_init 45 = .ok (.putfield 35, 3) := by decide +kernel
theorem dX11_init_48 : decode cX11_init 48 = .ok (.aload_n 0, 1) := by decide +kernel
theorem dX11_init_49 : decode cX11_init 49 = .ok (.new 32, 3) := by decide +kernel
theorem dX11_init_52 : decode cX11_init 52 = .ok (.dup, 1) := by decide +kernel
theorem dX11_init_53 : decode cX11_init 53 = .ok (.invokespecial 34, 3) := by decide +kernel
theorem dX11_init_56 : decode cX11_init 56 = .ok (.putfield 39, 3) := by decide +kernel
theorem dX11_init_59 : decode cX11_init 59 = .ok (.aload_n 0, 1) := by decide +kernel
theorem dX11_init_60 : decode cX11_init 60 = .ok (.new 42, 3) := by decide +kernel
theorem dX11_init_63 : decode cX11_init 63 = .ok (.dup, 1) := by decide +kernel
theorem dX11_init_64 : decode cX11_init 64 = .ok (.invokespecial 44, 3) := by decide +kernel
theorem dX11_init_67 : decode cX11_init 67 = .ok (.putfield 45, 3) := by decide +kernel
theorem dX11_init_70 : decode cX11_init 70 = .ok (.aload_n 0, 1) := by decide +kernel
theorem dX11_init_71 : decode cX11_init 71 = .ok (.iconst 2, 1) := by decide +kernel
theorem dX11_init_72 : decode cX11_init 72 = .ok (.anewarray 26, 3) := by decide +kernel
theorem dX11_init_75 : decode cX11_init 75 = .ok (.putfield 49, 3) := by decide +kernel
theorem dX11_init_78 : decode cX11_init 78 = .ok (.aload_n 0, 1) := by decide +kernel
theorem dX11_init_79 : decode cX11_init 79 = .ok (.iconst 2, 1) := by decide +kernel
theorem dX11_init_80 : decode cX11_init 80 = .ok (.anewarray 32, 3) := by decide +kernel
theorem dX11_init_83 : decode cX11_init 83 = .ok (.putfield 52, 3) := by decide +kernel
theorem dX11_init_86 : decode cX11_init 86 = .ok (.aload_n 0, 1) := by decide +kernel
theorem dX11_init_87 : decode cX11_init 87 = .ok (.iconst 4, 1) := by decide +kernel
theorem dX11_init_88 : decode cX11_init 88 = .ok (.anewarray 56, 3) := by decide +kernel
theorem dX11_init_91 : decode cX11_init 91 = .ok (.putfield 58, 3) := by decide +kernel
theorem dX11_init_94 : decode cX11_init 94 = .ok (.aload_n 0, 1) := by decide +kernel
theorem dX11_init_95 : decode cX11_init 95 = .ok (.bipush 12, 2) := by decide +kernel
theorem dX11_init_97 : decode cX11_init 97 = .ok (.newarray .int, 2) := by decide +kernel
theorem dX11_init_99 : decode cX11_init 99 = .ok (.putfield 62, 3) := by decide +kernel
theorem dX11_init_102 : decode cX11_init 102 = .ok (.aload_n 0, 1) := by decide +kernel
theorem dX11_init_103 : decode cX11_init 103 = .ok (.bipush 41, 2) := by decide +kernel
theorem dX11_init_105 : decode cX11_init 105 = .ok (.newarray .int, 2) := by decide +kernel
theorem dX11_init_107 : decode cX11_init 107 = .ok (.putfield 66, 3) := by decide +kernel
theorem dX11_init_110 : decode cX11_init 110 = .ok (.iconst 0, 1) := by decide +kernel
theorem dX11_init_111 : decode cX11_init 111 = .ok (.istore_n 1, 1) := by decide +kernel
theorem dX11_init_112 : decode cX11_init 112 = .ok (.iload_n 1, 1) := by decide +kernel
theorem dX11_init_113 : decode cX11_init 113 = .ok (.iconst 2, 1) := by decide +kernel
theorem dX11_init_114 : decode cX11_init 114 = .ok (.if_icmp .ge 22, 3) := by decide +kernel
theorem dX11_init_117 : decode cX11_init 117 = .ok (.aload_n 0, 1) := by decide +kernel
theorem dX11_init_118 : decode cX11_init 118 = .ok (.getfield 52, 3) := by decide +kernel
theorem dX11_init_121 : decode cX11_init 121 = .ok (.iload_n 1, 1) := by decide +kernel
theorem dX11_init_122 : decode cX11_init 122 = .ok (.new 32, 3) := by decide +kernel
theorem dX11_init_125 : decode cX11_init 125 = .ok (.dup, 1) := by decide +kernel
theorem dX11_init_126 : decode cX11_init 126 = .ok (.invokespecial 34, 3) := by decide +kernel
theorem dX11_init_129 : decode cX11_init 129 = .ok (.aastore, 1) := by decide +kernel
theorem dX11_init_130 : decode cX11_init 130 = .ok (.iinc 1 1, 3) := by decide +kernel
theorem dX11_init_133 : decode cX11_init 133 = .ok (.goto (-21), 3) := by decide +kernel
theorem dX11_init_136 : decode cX11_init 136 = .ok (.iconst 0, 1) := by decide +kernel
theorem dX11_init_137 : decode cX11_init 137 = .ok (.istore_n 1, 1) := by decide +kernel
theorem dX11_init_138 : decode cX11_init 138 = .ok (.iload_n 1, 1) := by decide +kernel
theorem dX11_init_139 : decode cX11_init 139 = .ok (.iconst 4, 1) := by decide +kernel
theorem dX11_init_140 : decode cX11_init 140 = .ok (.if_icmp .ge 22, 3) := by decide +kernel
theorem dX11_init_143 : decode cX11_init 143 = .ok (.aload_n 0, 1) := by decide +kernel
theorem dX11_init_144 : decode cX11_init 144 = .ok (.getfield 58, 3) := by decide +kernel
theorem dX11_init_147 : decode cX11_init 147 = .ok (.iload_n 1, 1) := by decide +kernel
theorem dX11_init_148 : decode cX11_init 148 = .ok (.new 56, 3) := by decide +kernel
theorem dX11_init_151 : decode cX11_init 151 = .ok (.dup, 1) := by decide +kernel
theorem dX11_init_152 : decode cX11_init 152 = .ok (.invokespecial 69, 3) := by decide +kernel
theorem dX11_init_155 : decode cX11_init 155 = .ok (.aastore, 1) := by decide +kernel
theorem dX11_init_156 : decode cX11_init 156 = .ok (.iinc 1 1, 3) := by decide +kernel
theorem dX11_init_159 : decode cX11_init 159 = .ok (.goto (-21), 3) := by decide +kernel
theorem dX11_init_162 : decode cX11_init 162 = .ok (.aload_n 0, 1) := by decide +kernel
theorem dX11_init_163 : decode cX11_init 163 = .ok (.new 26, 3) := by decide +kernel
theorem dX11_init_166 : decode cX11_init 166 = .ok (.dup, 1) := by decide +kernel
theorem dX11_init_167 : decode cX11_init 167 = .ok (.invokespecial 70, 3) := by decide +kernel
theorem dX11_init_170 : decode cX11_init 170 = .ok (.putfield 71, 3) := by decide +kernel
theorem dX11_init_173 : decode cX11_init 173 = .ok (.aload_n 0, 1) := by decide +kernel
theorem dX11_init_174 : decode cX11_init 174 = .ok (.getfield 28, 3) := by decide +kernel
theorem dX11_init_177 : decode cX11_init 177 = .ok (.iconst 0, 1) := by decide +kernel
theorem dX11_init_178 : decode cX11_init 178 = .ok (.aload_n 0, 1) := by decide +kernel
theorem dX11_init_179 : decode cX11_init 179 = .ok (.getfield 71, 3) := by decide +kernel
theorem dX11_init_182 : decode cX11_init 182 = .ok (.aastore, 1) := by decide +kernel
theorem dX11_init_183 : decode cX11_init 183 = .ok (.aload_n 0, 1) := by decide +kernel
theorem dX11_init_184 : decode cX11_init 184 = .ok (.new 75, 3) := by decide +kernel
theorem dX11_init_187 : decode cX11_init 187 = .ok (.dup, 1) := by decide +kernel
theorem dX11_init_188 : decode cX11_init 188 = .ok (.aload_n 0, 1) := by decide +kernel
theorem dX11_init_189 : decode cX11_init 189 = .ok (.getfield 71, 3) := by decide +kernel
theorem dX11_init_192 : decode cX11_init 192 = .ok (.invokespecial 77, 3) := by decide +kernel
theorem dX11_init_195 : decode cX11_init 195 = .ok (.putfield 80, 3) := by decide +kernel
theorem dX11_init_198 : decode cX11_init 198 = .ok (.aload_n 0, 1) := by decide +kernel
theorem dX11_init_199 : decode cX11_init 199 = .ok (.new 84, 3) := by decide +kernel
theorem dX11_init_202 : decode cX11_init 202 = .ok (.dup, 1) := by decide +kernel
theorem dX11_init_203 : decode cX11_init 203 = .ok (.aload_n 0, 1) := by decide +kernel
theorem dX11_init_204 : decode cX11_init 204 = .ok (.getfield 80, 3) := by decide +kernel
theorem dX11_init_207 : decode cX11_init 207 = .ok (.invokespecial 86, 3) := by decide +kernel
theorem dX11_init_210 : decode cX11_init 210 = .ok (.putfield 89, 3) := by decide +kernel
theorem dX11_init_213 : decode cX11_init 213 = .ok (.aload_n 0, 1) := by decide +kernel
theorem dX11_init_214 : decode cX11_init 214 = .ok (.new 93, 3) := by decide +kernel
theorem dX11_init_217 : decode cX11_init 217 = .ok (.dup, 1) := by decide +kernel
theorem dX11_init_218 : decode cX11_init 218 = .ok (.aload_n 0, 1) := by decide +kernel
theorem dX11_init_219 : decode cX11_init 219 = .ok (.getfield 80, 3) := by decide +kernel
theorem dX11_init_222 : decode cX11_init 222 = .ok (.invokespecial 95, 3) := by decide +kernel
theorem dX11_init_225 : decode cX11_init 225 = .ok (.putfield 96, 3) := by decide +kernel
theorem dX11_init_228 : decode cX11_init 228 = .ok (.aload_n 0, 1) := by decide +kernel
theorem dX11_init_229 : decode cX11_init 229 = .ok (.new 100, 3) := by decide +kernel
theorem dX11_init_232 : decode cX11_init 232 = .ok (.dup, 1) := by decide +kernel
theorem dX11_init_233 : decode cX11_init 233 = .ok (.aload_n 0, 1) := by decide +kernel
theorem dX11_init_234 : decode cX11_init 234 = .ok (.getfield 80, 3) := by decide +kernel
theorem dX11_init_237 : decode cX11_init 237 = .ok (.aload_n 0, 1) := by decide +kernel
theorem dX11_init_238 : decode cX11_init 238 = .ok (.getfield 96, 3) := by decide +kernel
theorem dX11_init_241 : decode cX11_init 241 = .ok (.invokespecial 102, 3) := by decide +kernel
theorem dX11_init_244 : decode cX11_init 244 = .ok (.putfield 105, 3) := by decide +kernel
theorem dX11_init_247 : decode cX11_init 247 = .ok (.aload_n 0, 1) := by decide +kernel
theorem dX11_init_248 : decode cX11_init 248 = .ok (.new 109, 3) := by decide +kernel
theorem dX11_init_251 : decode cX11_init 251 = .ok (.dup, 1) := by decide +kernel
theorem dX11_init_252 : decode cX11_init 252 = .ok (.aload_n 0, 1) := by decide +kernel
theorem dX11_init_253 : decode cX11_init 253 = .ok (.getfield 80, 3) := by decide +kernel
theorem dX11_init_256 : decode cX11_init 256 = .ok (.aload_n 0, 1) := by decide +kernel
theorem dX11_init_257 : decode cX11_init 257 = .ok (.getfield 89, 3) := by decide +kernel
theorem dX11_init_260 : decode cX11_init 260 = .ok (.aload_n 0, 1) := by decide +kernel
theorem dX11_init_261 : decode cX11_init 261 = .ok (.getfield 96, 3) := by decide +kernel
theorem dX11_init_264 : decode cX11_init 264 = .ok (.invokespecial 111, 3) := by decide +kernel
theorem dX11_init_267 : decode cX11_init 267 = .ok (.putfield 114, 3) := by decide +kernel
theorem dX11_init_270 : decode cX11_init 270 = .ok (.return_, 1) := by decide +kernel
theorem dX11_feed_0 : decode cX11_feed 0 = .ok (.aload_n 0, 1) := by decide +kernel
theorem dX11_feed_1 : decode cX11_feed 1 = .ok (.getfield 15, 3) := by decide +kernel
theorem dX11_feed_4 : decode cX11_feed 4 = .ok (.bipush 20, 2) := by decide +kernel
theorem dX11_feed_6 : decode cX11_feed 6 = .ok (.iadd, 1) := by decide +kernel
theorem dX11_feed_7 : decode cX11_feed 7 = .ok (.sipush 900, 3) := by decide +kernel
theorem dX11_feed_10 : decode cX11_feed 10 = .ok (.if_icmp .le 6, 3) := by decide +kernel
theorem dX11_feed_13 : decode cX11_feed 13 = .ok (.ldc 118, 2) := by decide +kernel
theorem dX11_feed_15 : decode cX11_feed 15 = .ok (.ireturn, 1) := by decide +kernel
theorem dX11_feed_16 : decode cX11_feed 16 = .ok (.aload_n 0, 1) := by decide +kernel
theorem dX11_feed_17 : decode cX11_feed 17 = .ok (.iload_n 1, 1) := by decide +kernel
theorem dX11_feed_18 : decode cX11_feed 18 = .ok (.invokevirtual 119, 3) := by decide +kernel
theorem dX11_feed_21 : decode cX11_feed 21 = .ok (.aload_n 0, 1) := by decide +kernel
theorem dX11_feed_22 : decode cX11_feed 22 = .ok (.iload_n 2, 1) := by decide +kernel
theorem dX11_feed_23 : decode cX11_feed 23 = .ok (.invokevirtual 119, 3) := by decide +kernel
theorem dX11_feed_26 : decode cX11_feed 26 = .ok (.aload_n 0, 1) := by decide +kernel
theorem dX11_feed_27 : decode cX11_feed 27 = .ok (.iload_n 3, 1) := by decide +kernel
theorem dX11_feed_28 : decode cX11_feed 28 = .ok (.invokevirtual 119, 3) := by decide +kernel
theorem dX11_feed_31 : decode cX11_feed 31 = .ok (.aload_n 0, 1) := by decide +kernel
theorem dX11_feed_32 : decode cX11_feed 32 = .ok (.iload 4, 2) := by decide +kernel
theorem dX11_feed_34 : decode cX11_feed 34 = .ok (.invokevirtual 119, 3) := by decide +kernel
theorem dX11_feed_37 : decode cX11_feed 37 = .ok (.aload_n 0, 1) := by decide +kernel
theorem dX11_feed_38 : decode cX11_feed 38 = .ok (.iload 5, 2) := by decide +kernel
theorem dX11_feed_40 : decode cX11_feed 40 = .ok (.invokevirtual 119, 3) := by decide +kernel
theorem dX11_feed_43 : decode cX11_feed 43 = .ok (.aload_n 0, 1) := by decide +kernel
theorem dX11_feed_44 : decode cX11_feed 44 = .ok (.getfield 15, 3) := by decide +kernel
theorem dX11_feed_47 : decode cX11_feed 47 = .ok (.ireturn, 1) := by decide +kernel
theorem dX11_desk_0 : decode cX11_desk 0 = .ok (.iload_n 1, 1) := by decide +kernel
theorem dX11_desk_1 : decode cX11_desk 1 = .ok (.ifCond .lt 11, 3) := by decide +kernel
theorem dX11_desk_4 : decode cX11_desk 4 = .ok (.iload_n 1, 1) := by decide +kernel
theorem dX11_desk_5 : decode cX11_desk 5 = .ok (.aload_n 0, 1) := by decide +kernel
theorem dX11_desk_6 : decode cX11_desk 6 = .ok (.getfield 15, 3) := by decide +kernel
theorem dX11_desk_9 : decode cX11_desk 9 = .ok (.if_icmp .le 6, 3) := by decide +kernel
theorem dX11_desk_12 : decode cX11_desk 12 = .ok (.ldc 123, 2) := by decide +kernel
theorem dX11_desk_14 : decode cX11_desk 14 = .ok (.ireturn, 1) := by decide +kernel
theorem dX11_desk_15 : decode cX11_desk 15 = .ok (.aload_n 0, 1) := by decide +kernel
theorem dX11_desk_16 : decode cX11_desk 16 = .ok (.invokevirtual 124, 3) := by decide +kernel
theorem dX11_desk_19 : decode cX11_desk 19 = .ok (.astore_n 2, 1) := by decide +kernel
theorem dX11_desk_20 : decode cX11_desk 20 = .ok (.aload_n 0, 1) := by decide +kernel
theorem dX11_desk_21 : decode cX11_desk 21 = .ok (.getfield 22, 3) := by decide +kernel
theorem dX11_desk_24 : decode cX11_desk 24 = .ok (.aload_n 0, 1) := by decide +kernel
theorem dX11_desk_25 : decode cX11_desk 25 = .ok (.getfield 11, 3) := by decide +kernel
theorem dX11_desk_28 : decode cX11_desk 28 = .ok (.iload_n 1, 1) := by decide +kernel
theorem dX11_desk_29 : decode cX11_desk 29 = .ok (.aload_n 2, 1) := by decide +kernel
theorem dX11_desk_30 : decode cX11_desk 30 = .ok (.invokevirtual 128, 3) := by decide +kernel
theorem dX11_desk_33 : decode cX11_desk 33 = .ok (.istore_n 3, 1) := by decide +kernel
theorem dX11_desk_34 : decode cX11_desk 34 = .ok (.aload_n 0, 1) := by decide +kernel
theorem dX11_desk_35 : decode cX11_desk 35 = .ok (.iconst 0, 1) := by decide +kernel
theorem dX11_desk_36 : decode cX11_desk 36 = .ok (.putfield 15, 3) := by decide +kernel
theorem dX11_desk_39 : decode cX11_desk 39 = .ok (.iload_n 3, 1) := by decide +kernel
theorem dX11_desk_40 : decode cX11_desk 40 = .ok (.ifCond .ne 14, 3) := by decide +kernel
theorem dX11_desk_43 : decode cX11_desk 43 = .ok (.ldc 132, 2) := by decide +kernel
theorem dX11_desk_45 : decode cX11_desk 45 = .ok (.aload_n 0, 1) := by decide +kernel
theorem dX11_desk_46 : decode cX11_desk 46 = .ok (.getfield 22, 3) := by decide +kernel
theorem dX11_desk_49 : decode cX11_desk 49 = .ok (.getfield 133, 3) := by decide +kernel
theorem dX11_desk_52 : decode cX11_desk 52 = .ok (.isub, 1) := by decide +kernel
theorem dX11_desk_53 : decode cX11_desk 53 = .ok (.ireturn, 1) := by decide +kernel
theorem dX11_desk_54 : decode cX11_desk 54 = .ok (.aload_n 0, 1) := by decide +kernel
theorem dX11_desk_55 : decode cX11_desk 55 = .ok (.aload_n 2, 1) := by decide +kernel
theorem dX11_desk_56 : decode cX11_desk 56 = .ok (.invokevirtual 136, 3) := by decide +kernel
theorem dX11_desk_59 : decode cX11_desk 59 = .ok (.aload_n 0, 1) := by decide +kernel
theorem dX11_desk_60 : decode cX11_desk 60 = .ok (.getfield 35, 3) := by decide +kernel
theorem dX11_desk_63 : decode cX11_desk 63 = .ok (.aload_n 2, 1) := by decide +kernel
theorem dX11_desk_64 : decode cX11_desk 64 = .ok (.invokevirtual 139, 3) := by decide +kernel
theorem dX11_desk_67 : decode cX11_desk 67 = .ok (.aload_n 0, 1) := by decide +kernel
theorem dX11_desk_68 : decode cX11_desk 68 = .ok (.getfield 45, 3) := by decide +kernel
theorem dX11_desk_71 : decode cX11_desk 71 = .ok (.invokevirtual 142, 3) := by decide +kernel
theorem dX11_desk_74 : decode cX11_desk 74 = .ok (.aload_n 2, 1) := by decide +kernel
theorem dX11_desk_75 : decode cX11_desk 75 = .ok (.getfield 145, 3) := by decide +kernel
theorem dX11_desk_78 : decode cX11_desk 78 = .ok (.ireturn, 1) := by decide +kernel
theorem dX11_fault_0 : decode cX11_fault 0 = .ok (.iload_n 1, 1) := by decide +kernel
theorem dX11_fault_1 : decode cX11_fault 1 = .ok (.ifCond .ne 11, 3) := by decide +kernel
theorem dX11_fault_4 : decode cX11_fault 4 = .ok (.aload_n 0, 1) := by decide +kernel
theorem dX11_fault_5 : decode cX11_fault 5 = .ok (.getfield 22, 3) := by decide +kernel
theorem dX11_fault_8 : decode cX11_fault 8 = .ok (.getfield 133, 3) := by decide +kernel
theorem dX11_fault_11 : decode cX11_fault 11 = .ok (.ireturn, 1) := by decide +kernel
theorem dX11_fault_12 : decode cX11_fault 12 = .ok (.iload_n 1, 1) := by decide +kernel
theorem dX11_fault_13 : decode cX11_fault 13 = .ok (.iconst 1, 1) := by decide +kernel
theorem dX11_fault_14 : decode cX11_fault 14 = .ok (.if_icmp .ne 13, 3) := by decide +kernel
theorem dX11_fault_17 : decode cX11_fault 17 = .ok (.aload_n 0, 1) := by decide +kernel
theorem dX11_fault_18 : decode cX11_fault 18 = .ok (.getfield 22, 3) := by decide +kernel
theorem dX11_fault_21 : decode cX11_fault 21 = .ok (.getfield 148, 3) := by decide +kernel
theorem dX11_fault_24 : decode cX11_fault 24 = .ok (.goto 4, 3) := by decide +kernel
theorem dX11_fault_27 : decode cX11_fault 27 = .ok (.iconst (-1), 1) := by decide +kernel
theorem dX11_fault_28 : decode cX11_fault 28 = .ok (.ireturn, 1) := by decide +kernel
theorem dX11_player_0 : decode cX11_player 0 = .ok (.aload_n 0, 1) := by decide +kernel
theorem dX11_player_1 : decode cX11_player 1 = .ok (.getfield 71, 3) := by decide +kernel
theorem dX11_player_4 : decode cX11_player 4 = .ok (.iload_n 1, 1) := by decide +kernel
theorem dX11_player_5 : decode cX11_player 5 = .ok (.invokevirtual 151, 3) := by decide +kernel
theorem dX11_player_8 : decode cX11_player 8 = .ok (.ifCond .ne 6, 3) := by decide +kernel
theorem dX11_player_11 : decode cX11_player 11 = .ok (.ldc 155, 2) := by decide +kernel
theorem dX11_player_13 : decode cX11_player 13 = .ok (.ireturn, 1) := by decide +kernel
theorem dX11_player_14 : decode cX11_player 14 = .ok (.iload_n 2, 1) := by decide +kernel
theorem dX11_player_15 : decode cX11_player 15 = .ok (.tableswitch 76 0 3 #[29, 39, 49, 59], 29) := by decide +kernel
theorem dX11_player_44 : decode cX11_player 44 = .ok (.aload_n 0, 1) := by decide +kernel
theorem dX11_player_45 : decode cX11_player 45 = .ok (.getfield 35, 3) := by decide +kernel
theorem dX11_player_48 : decode cX11_player 48 = .ok (.getfield 156, 3) := by decide +kernel
theorem dX11_player_51 : decode cX11_player 51 = .ok (.iload_n 1, 1) := by decide +kernel
theorem dX11_player_52 : decode cX11_player 52 = .ok (.iaload, 1) := by decide +kernel
theorem dX11_player_53 : decode cX11_player 53 = .ok (.ireturn, 1) := by decide +kernel
theorem dX11_player_54 : decode cX11_player 54 = .ok (.aload_n 0, 1) := by decide +kernel
theorem dX11_player_55 : decode cX11_player 55 = .ok (.getfield 35, 3) := by decide +kernel
theorem dX11_player_58 : decode cX11_player 58 = .ok (.getfield 159, 3) := by decide +kernel
theorem dX11_player_61 : decode cX11_player 61 = .ok (.iload_n 1, 1) := by decide +kernel
theorem dX11_player_62 : decode cX11_player 62 = .ok (.iaload, 1) := by decide +kernel
theorem dX11_player_63 : decode cX11_player 63 = .ok (.ireturn, 1) := by decide +kernel
theorem dX11_player_64 : decode cX11_player 64 = .ok (.aload_n 0, 1) := by decide +kernel
theorem dX11_player_65 : decode cX11_player 65 = .ok (.getfield 35, 3) := by decide +kernel
theorem dX11_player_68 : decode cX11_player 68 = .ok (.getfield 162, 3) := by decide +kernel
theorem dX11_player_71 : decode cX11_player 71 = .ok (.iload_n 1, 1) := by decide +kernel
theorem dX11_player_72 : decode cX11_player 72 = .ok (.iaload, 1) := by decide +kernel
theorem dX11_player_73 : decode cX11_player 73 = .ok (.ireturn, 1) := by decide +kernel
theorem dX11_player_74 : decode cX11_player 74 = .ok (.aload_n 0, 1) := by decide +kernel
theorem dX11_player_75 : decode cX11_player 75 = .ok (.getfield 35, 3) := by decide +kernel
theorem dX11_player_78 : decode cX11_player 78 = .ok (.iload_n 1, 1) := by decide +kernel
theorem dX11_player_79 : decode cX11_player 79 = .ok (.invokevirtual 165, 3) := by decide +kernel
theorem dX11_player_82 : decode cX11_player 82 = .ok (.ifCond .eq 7, 3) := by decide +kernel
theorem dX11_player_85 : decode cX11_player 85 = .ok (.iconst 1, 1) := by decide +kernel
theorem dX11_player_86 : decode cX11_player 86 = .ok (.goto 4, 3) := by decide +kernel
theorem dX11_player_89 : decode cX11_player 89 = .ok (.iconst 0, 1) := by decide +kernel
theorem dX11_player_90 : decode cX11_player 90 = .ok (.ireturn, 1) := by decide +kernel
theorem dX11_player_91 : decode cX11_player 91 = .ok (.ldc 155, 2) := by decide +kernel
theorem dX11_player_93 : decode cX11_player 93 = .ok (.ireturn, 1) := by decide +kernel
theorem dX11_wants_0 : decode cX11_wants 0 = .ok (.aload_n 0, 1) := by decide +kernel
theorem dX11_wants_1 : decode cX11_wants 1 = .ok (.getfield 71, 3) := by decide +kernel
theorem dX11_wants_4 : decode cX11_wants 4 = .ok (.iload_n 1, 1) := by decide +kernel
theorem dX11_wants_5 : decode cX11_wants 5 = .ok (.iload_n 2, 1) := by decide +kernel
theorem dX11_wants_6 : decode cX11_wants 6 = .ok (.invokevirtual 168, 3) := by decide +kernel
theorem dX11_wants_9 : decode cX11_wants 9 = .ok (.ifCond .eq 15, 3) := by decide +kernel
theorem dX11_wants_12 : decode cX11_wants 12 = .ok (.aload_n 0, 1) := by decide +kernel
theorem dX11_wants_13 : decode cX11_wants 13 = .ok (.getfield 71, 3) := by decide +kernel
theorem dX11_wants_16 : decode cX11_wants 16 = .ok (.iload_n 1, 1) := by decide +kernel
theorem dX11_wants_17 : decode cX11_wants 17 = .ok (.iload_n 2, 1) := by decide +kernel
theorem dX11_wants_18 : decode cX11_wants 18 = .ok (.invokevirtual 172, 3) := by decide +kernel
theorem dX11_wants_21 : decode cX11_wants 21 = .ok (.goto 5, 3) := by decide +kernel
theorem dX11_wants_24 : decode cX11_wants 24 = .ok (.ldc 155, 2) := by decide +kernel
theorem dX11_wants_26 : decode cX11_wants 26 = .ok (.ireturn, 1) := by decide +kernel
theorem dX11_bars_0 : decode cX11_bars 0 = .ok (.aload_n 0, 1) := by decide +kernel
theorem dX11_bars_1 : decode cX11_bars 1 = .ok (.getfield 71, 3) := by decide +kernel
theorem dX11_bars_4 : decode cX11_bars 4 = .ok (.iload_n 1, 1) := by decide +kernel
theorem dX11_bars_5 : decode cX11_bars 5 = .ok (.invokevirtual 176, 3) := by decide +kernel
theorem dX11_bars_8 : decode cX11_bars 8 = .ok (.ifCond .eq 14, 3) := by decide +kernel
theorem dX11_bars_11 : decode cX11_bars 11 = .ok (.aload_n 0, 1) := by decide +kernel
theorem dX11_bars_12 : decode cX11_bars 12 = .ok (.getfield 71, 3) := by decide +kernel
theorem dX11_bars_15 : decode cX11_bars 15 = .ok (.iload_n 1, 1) := by decide +kernel
theorem dX11_bars_16 : decode cX11_bars 16 = .ok (.invokevirtual 179, 3) := by decide +kernel
theorem dX11_bars_19 : decode cX11_bars 19 = .ok (.goto 5, 3) := by decide +kernel
theorem dX11_bars_22 : decode cX11_bars 22 = .ok (.ldc 155, 2) := by decide +kernel
theorem dX11_bars_24 : decode cX11_bars 24 = .ok (.ireturn, 1) := by decide +kernel
theorem dX11_glad_0 : decode cX11_glad 0 = .ok (.aload_n 0, 1) := by decide +kernel
theorem dX11_glad_1 : decode cX11_glad 1 = .ok (.getfield 71, 3) := by decide +kernel
theorem dX11_glad_4 : decode cX11_glad 4 = .ok (.iload_n 1, 1) := by decide +kernel
theorem dX11_glad_5 : decode cX11_glad 5 = .ok (.invokevirtual 151, 3) := by decide +kernel
theorem dX11_glad_8 : decode cX11_glad 8 = .ok (.ifCond .eq 15, 3) := by decide +kernel
theorem dX11_glad_11 : decode cX11_glad 11 = .ok (.aload_n 0, 1) := by decide +kernel
theorem dX11_glad_12 : decode cX11_glad 12 = .ok (.getfield 71, 3) := by decide +kernel
theorem dX11_glad_15 : decode cX11_glad 15 = .ok (.iload_n 2, 1) := by decide +kernel
theorem dX11_glad_16 : decode cX11_glad 16 = .ok (.iload_n 3, 1) := by decide +kernel
theorem dX11_glad_17 : decode cX11_glad 17 = .ok (.invokevirtual 168, 3) := by decide +kernel
theorem dX11_glad_20 : decode cX11_glad 20 = .ok (.ifCond .ne 6, 3) := by decide +kernel
theorem dX11_glad_23 : decode cX11_glad 23 = .ok (.ldc 155, 2) := by decide +kernel
theorem dX11_glad_25 : decode cX11_glad 25 = .ok (.ireturn, 1) := by decide +kernel
theorem dX11_glad_26 : decode cX11_glad 26 = .ok (.iload 4, 2) := by decide +kernel
theorem dX11_glad_28 : decode cX11_glad 28 = .ok (.invokestatic 183, 3) := by decide +kernel
theorem dX11_glad_31 : decode cX11_glad 31 = .ok (.ifCond .eq 11, 3) := by decide +kernel
theorem dX11_glad_34 : decode cX11_glad 34 = .ok (.iload 5, 2) := by decide +kernel
theorem dX11_glad_36 : decode cX11_glad 36 = .ok (.invokestatic 183, 3) := by decide +kernel
theorem dX11_glad_39 : decode cX11_glad 39 = .ok (.ifCond .ne 6, 3) := by decide +kernel
theorem dX11_glad_42 : decode cX11_glad 42 = .ok (.ldc 123, 2) := by decide +kernel
theorem dX11_glad_44 : decode cX11_glad 44 = .ok (.ireturn, 1) := by decide +kernel
theorem dX11_glad_45 : decode cX11_glad 45 = .ok (.aload_n 0, 1) := by decide +kernel
theorem dX11_glad_46 : decode cX11_glad 46 = .ok (.iload_n 1, 1) := by decide +kernel
theorem dX11_glad_47 : decode cX11_glad 47 = .ok (.iload_n 2, 1) := by decide +kernel
theorem dX11_glad_48 : decode cX11_glad 48 = .ok (.invokevirtual 186, 3) := by decide +kernel
theorem dX11_glad_51 : decode cX11_glad 51 = .ok (.aload_n 0, 1) := by decide +kernel
theorem dX11_glad_52 : decode cX11_glad 52 = .ok (.getfield 80, 3) := by decide +kernel
theorem dX11_glad_55 : decode cX11_glad 55 = .ok (.iload_n 3, 1) := by decide +kernel
theorem dX11_glad_56 : decode cX11_glad 56 = .ok (.aload_n 0, 1) := by decide +kernel
theorem dX11_glad_57 : decode cX11_glad 57 = .ok (.getfield 35, 3) := by decide +kernel
theorem dX11_glad_60 : decode cX11_glad 60 = .ok (.getfield 156, 3) := by decide +kernel
theorem dX11_glad_63 : decode cX11_glad 63 = .ok (.iload_n 1, 1) := by decide +kernel
theorem dX11_glad_64 : decode cX11_glad 64 = .ok (.iaload, 1) := by decide +kernel
theorem dX11_glad_65 : decode cX11_glad 65 = .ok (.iload 5, 2) := by decide +kernel
theorem dX11_glad_67 : decode cX11_glad 67 = .ok (.iload 4, 2) := by decide +kernel
theorem dX11_glad_69 : decode cX11_glad 69 = .ok (.invokevirtual 190, 3) := by decide +kernel
theorem dX11_glad_72 : decode cX11_glad 72 = .ok (.ireturn, 1) := by decide +kernel
theorem dX11_play_0 : decode cX11_play 0 = .ok (.aload_n 0, 1) := by decide +kernel
theorem dX11_play_1 : decode cX11_play 1 = .ok (.getfield 39, 3) := by decide +kernel
theorem dX11_play_4 : decode cX11_play 4 = .ok (.aload_n 0, 1) := by decide +kernel
theorem dX11_play_5 : decode cX11_play 5 = .ok (.getfield 35, 3) := by decide +kernel
theorem dX11_play_8 : decode cX11_play 8 = .ok (.invokevirtual 194, 3) := by decide +kernel
theorem dX11_play_11 : decode cX11_play 11 = .ok (.aload_n 0, 1) := by decide +kernel
theorem dX11_play_12 : decode cX11_play 12 = .ok (.getfield 114, 3) := by decide +kernel
theorem dX11_play_15 : decode cX11_play 15 = .ok (.aload_n 0, 1) := by decide +kernel
theorem dX11_play_16 : decode cX11_play 16 = .ok (.getfield 35, 3) := by decide +kernel
theorem dX11_play_19 : decode cX11_play 19 = .ok (.iload_n 1, 1) := by decide +kernel
theorem dX11_play_20 : decode cX11_play 20 = .ok (.iload_n 2, 1) := by decide +kernel
theorem dX11_play_21 : decode cX11_play 21 = .ok (.invokevirtual 198, 3) := by decide +kernel
theorem dX11_play_24 : decode cX11_play 24 = .ok (.istore_n 3, 1) := by decide +kernel
theorem dX11_play_25 : decode cX11_play 25 = .ok (.iload_n 3, 1) := by decide +kernel
theorem dX11_play_26 : decode cX11_play 26 = .ok (.ifCond .eq 8, 3) := by decide +kernel
theorem dX11_play_29 : decode cX11_play 29 = .ok (.ldc 202, 2) := by decide +kernel
theorem dX11_play_31 : decode cX11_play 31 = .ok (.iload_n 3, 1) := by decide +kernel
theorem dX11_play_32 : decode cX11_play 32 = .ok (.isub, 1) := by decide +kernel
theorem dX11_play_33 : decode cX11_play 33 = .ok (.ireturn, 1) := by decide +kernel
theorem dX11_play_34 : decode cX11_play 34 = .ok (.aload_n 0, 1) := by decide +kernel
theorem dX11_play_35 : decode cX11_play 35 = .ok (.getfield 45, 3) := by decide +kernel
theorem dX11_play_38 : decode cX11_play 38 = .ok (.aload_n 0, 1) := by decide +kernel
theorem dX11_play_39 : decode cX11_play 39 = .ok (.getfield 39, 3) := by decide +kernel
theorem dX11_play_42 : decode cX11_play 42 = .ok (.invokevirtual 203, 3) := by decide +kernel
theorem dX11_play_45 : decode cX11_play 45 = .ok (.aload_n 0, 1) := by decide +kernel
theorem dX11_play_46 : decode cX11_play 46 = .ok (.getfield 114, 3) := by decide +kernel
theorem dX11_play_49 : decode cX11_play 49 = .ok (.getfield 206, 3) := by decide +kernel
theorem dX11_play_52 : decode cX11_play 52 = .ok (.ireturn, 1) := by decide +kernel
theorem dX11_perform_0 : decode cX11_perform 0 = .ok (.aload_n 0, 1) := by decide +kernel
theorem dX11_perform_1 : decode cX11_perform 1 = .ok (.getfield 39, 3) := by decide +kernel
theorem dX11_perform_4 : decode cX11_perform 4 = .ok (.aload_n 0, 1) := by decide +kernel
theorem dX11_perform_5 : decode cX11_perform 5 = .ok (.getfield 35, 3) := by decide +kernel
theorem dX11_perform_8 : decode cX11_perform 8 = .ok (.invokevirtual 194, 3) := by decide +kernel
theorem dX11_perform_11 : decode cX11_perform 11 = .ok (.aload_n 0, 1) := by decide +kernel
theorem dX11_perform_12 : decode cX11_perform 12 = .ok (.getfield 114, 3) := by decide +kernel
theorem dX11_perform_15 : decode cX11_perform 15 = .ok (.aload_n 0, 1) := by decide +kernel
theorem dX11_perform_16 : decode cX11_perform 16 = .ok (.getfield 35, 3) := by decide +kernel
theorem dX11_perform_19 : decode cX11_perform 19 = .ok (.iload_n 1, 1) := by decide +kernel
theorem dX11_perform_20 : decode cX11_perform 20 = .ok (.iload_n 2, 1) := by decide +kernel
theorem dX11_perform_21 : decode cX11_perform 21 = .ok (.invokevirtual 209, 3) := by decide +kernel
theorem dX11_perform_24 : decode cX11_perform 24 = .ok (.istore_n 3, 1) := by decide +kernel
theorem dX11_perform_25 : decode cX11_perform 25 = .ok (.iload_n 3, 1) := by decide +kernel
theorem dX11_perform_26 : decode cX11_perform 26 = .ok (.ifCond .eq 8, 3) := by decide +kernel
theorem dX11_perform_29 : decode cX11_perform 29 = .ok (.ldc 202, 2) := by decide +kernel
theorem dX11_perform_31 : decode cX11_perform 31 = .ok (.iload_n 3, 1) := by decide +kernel
theorem dX11_perform_32 : decode cX11_perform 32 = .ok (.isub, 1) := by decide +kernel
theorem dX11_perform_33 : decode cX11_perform 33 = .ok (.ireturn, 1) := by decide +kernel
theorem dX11_perform_34 : decode cX11_perform 34 = .ok (.aload_n 0, 1) := by decide +kernel
theorem dX11_perform_35 : decode cX11_perform 35 = .ok (.getfield 45, 3) := by decide +kernel
theorem dX11_perform_38 : decode cX11_perform 38 = .ok (.aload_n 0, 1) := by decide +kernel
theorem dX11_perform_39 : decode cX11_perform 39 = .ok (.getfield 39, 3) := by decide +kernel
theorem dX11_perform_42 : decode cX11_perform 42 = .ok (.invokevirtual 203, 3) := by decide +kernel
theorem dX11_perform_45 : decode cX11_perform 45 = .ok (.aload_n 0, 1) := by decide +kernel
theorem dX11_perform_46 : decode cX11_perform 46 = .ok (.getfield 114, 3) := by decide +kernel
theorem dX11_perform_49 : decode cX11_perform 49 = .ok (.getfield 206, 3) := by decide +kernel
theorem dX11_perform_52 : decode cX11_perform 52 = .ok (.ireturn, 1) := by decide +kernel
theorem dX11_lend_0 : decode cX11_lend 0 = .ok (.aload_n 0, 1) := by decide +kernel
theorem dX11_lend_1 : decode cX11_lend 1 = .ok (.getfield 39, 3) := by decide +kernel
theorem dX11_lend_4 : decode cX11_lend 4 = .ok (.aload_n 0, 1) := by decide +kernel
theorem dX11_lend_5 : decode cX11_lend 5 = .ok (.getfield 35, 3) := by decide +kernel
theorem dX11_lend_8 : decode cX11_lend 8 = .ok (.invokevirtual 194, 3) := by decide +kernel
theorem dX11_lend_11 : decode cX11_lend 11 = .ok (.aload_n 0, 1) := by decide +kernel
theorem dX11_lend_12 : decode cX11_lend 12 = .ok (.getfield 114, 3) := by decide +kernel
theorem dX11_lend_15 : decode cX11_lend 15 = .ok (.aload_n 0, 1) := by decide +kernel
theorem dX11_lend_16 : decode cX11_lend 16 = .ok (.getfield 35, 3) := by decide +kernel
theorem dX11_lend_19 : decode cX11_lend 19 = .ok (.iload_n 1, 1) := by decide +kernel
theorem dX11_lend_20 : decode cX11_lend 20 = .ok (.iload_n 2, 1) := by decide +kernel
theorem dX11_lend_21 : decode cX11_lend 21 = .ok (.iload_n 3, 1) := by decide +kernel
theorem dX11_lend_22 : decode cX11_lend 22 = .ok (.invokevirtual 212, 3) := by decide +kernel
theorem dX11_lend_25 : decode cX11_lend 25 = .ok (.istore 4, 2) := by decide +kernel
theorem dX11_lend_27 : decode cX11_lend 27 = .ok (.iload 4, 2) := by decide +kernel
theorem dX11_lend_29 : decode cX11_lend 29 = .ok (.ifCond .eq 9, 3) := by decide +kernel
theorem dX11_lend_32 : decode cX11_lend 32 = .ok (.ldc 202, 2) := by decide +kernel
theorem dX11_lend_34 : decode cX11_lend 34 = .ok (.iload 4, 2) := by decide +kernel
theorem dX11_lend_36 : decode cX11_lend 36 = .ok (.isub, 1) := by decide +kernel
theorem dX11_lend_37 : decode cX11_lend 37 = .ok (.ireturn, 1) := by decide +kernel
theorem dX11_lend_38 : decode cX11_lend 38 = .ok (.aload_n 0, 1) := by decide +kernel
theorem dX11_lend_39 : decode cX11_lend 39 = .ok (.getfield 45, 3) := by decide +kernel
theorem dX11_lend_42 : decode cX11_lend 42 = .ok (.aload_n 0, 1) := by decide +kernel
theorem dX11_lend_43 : decode cX11_lend 43 = .ok (.getfield 39, 3) := by decide +kernel
theorem dX11_lend_46 : decode cX11_lend 46 = .ok (.invokevirtual 203, 3) := by decide +kernel
theorem dX11_lend_49 : decode cX11_lend 49 = .ok (.aload_n 0, 1) := by decide +kernel
theorem dX11_lend_50 : decode cX11_lend 50 = .ok (.getfield 35, 3) := by decide +kernel
theorem dX11_lend_53 : decode cX11_lend 53 = .ok (.getfield 156, 3) := by decide +kernel
theorem dX11_lend_56 : decode cX11_lend 56 = .ok (.iload_n 1, 1) := by decide +kernel
theorem dX11_lend_57 : decode cX11_lend 57 = .ok (.iaload, 1) := by decide +kernel
theorem dX11_lend_58 : decode cX11_lend 58 = .ok (.ireturn, 1) := by decide +kernel
theorem dX11_temper_0 : decode cX11_temper 0 = .ok (.aload_n 0, 1) := by decide +kernel
theorem dX11_temper_1 : decode cX11_temper 1 = .ok (.getfield 39, 3) := by decide +kernel
theorem dX11_temper_4 : decode cX11_temper 4 = .ok (.aload_n 0, 1) := by decide +kernel
theorem dX11_temper_5 : decode cX11_temper 5 = .ok (.getfield 35, 3) := by decide +kernel
theorem dX11_temper_8 : decode cX11_temper 8 = .ok (.invokevirtual 194, 3) := by decide +kernel
theorem dX11_temper_11 : decode cX11_temper 11 = .ok (.aload_n 0, 1) := by decide +kernel
theorem dX11_temper_12 : decode cX11_temper 12 = .ok (.getfield 114, 3) := by decide +kernel
theorem dX11_temper_15 : decode cX11_temper 15 = .ok (.aload_n 0, 1) := by decide +kernel
theorem dX11_temper_16 : decode cX11_temper 16 = .ok (.getfield 35, 3) := by decide +kernel
theorem dX11_temper_19 : decode cX11_temper 19 = .ok (.iload_n 1, 1) := by decide +kernel
theorem dX11_temper_20 : decode cX11_temper 20 = .ok (.iload_n 2, 1) := by decide +kernel
theorem dX11_temper_21 : decode cX11_temper 21 = .ok (.invokevirtual 216, 3) := by decide +kernel
theorem dX11_temper_24 : decode cX11_temper 24 = .ok (.istore_n 3, 1) := by decide +kernel
theorem dX11_temper_25 : decode cX11_temper 25 = .ok (.iload_n 3, 1) := by decide +kernel
theorem dX11_temper_26 : decode cX11_temper 26 = .ok (.ifCond .eq 8, 3) := by decide +kernel
theorem dX11_temper_29 : decode cX11_temper 29 = .ok (.ldc 202, 2) := by decide +kernel
theorem dX11_temper_31 : decode cX11_temper 31 = .ok (.iload_n 3, 1) := by decide +kernel
theorem dX11_temper_32 : decode cX11_temper 32 = .ok (.isub, 1) := by decide +kernel
theorem dX11_temper_33 : decode cX11_temper 33 = .ok (.ireturn, 1) := by decide +kernel
theorem dX11_temper_34 : decode cX11_temper 34 = .ok (.aload_n 0, 1) := by decide +kernel
theorem dX11_temper_35 : decode cX11_temper 35 = .ok (.getfield 45, 3) := by decide +kernel
theorem dX11_temper_38 : decode cX11_temper 38 = .ok (.aload_n 0, 1) := by decide +kernel
theorem dX11_temper_39 : decode cX11_temper 39 = .ok (.getfield 39, 3) := by decide +kernel
theorem dX11_temper_42 : decode cX11_temper 42 = .ok (.invokevirtual 203, 3) := by decide +kernel
theorem dX11_temper_45 : decode cX11_temper 45 = .ok (.aload_n 0, 1) := by decide +kernel
theorem dX11_temper_46 : decode cX11_temper 46 = .ok (.getfield 39, 3) := by decide +kernel
theorem dX11_temper_49 : decode cX11_temper 49 = .ok (.getfield 162, 3) := by decide +kernel
theorem dX11_temper_52 : decode cX11_temper 52 = .ok (.iload_n 1, 1) := by decide +kernel
theorem dX11_temper_53 : decode cX11_temper 53 = .ok (.iaload, 1) := by decide +kernel
theorem dX11_temper_54 : decode cX11_temper 54 = .ok (.ireturn, 1) := by decide +kernel
theorem dX11_friday_0 : decode cX11_friday 0 = .ok (.aload_n 0, 1) := by decide +kernel
theorem dX11_friday_1 : decode cX11_friday 1 = .ok (.getfield 45, 3) := by decide +kernel
theorem dX11_friday_4 : decode cX11_friday 4 = .ok (.aload_n 0, 1) := by decide +kernel
theorem dX11_friday_5 : decode cX11_friday 5 = .ok (.getfield 35, 3) := by decide +kernel
theorem dX11_friday_8 : decode cX11_friday 8 = .ok (.invokevirtual 203, 3) := by decide +kernel
theorem dX11_friday_11 : decode cX11_friday 11 = .ok (.aload_n 0, 1) := by decide +kernel
theorem dX11_friday_12 : decode cX11_friday 12 = .ok (.getfield 114, 3) := by decide +kernel
theorem dX11_friday_15 : decode cX11_friday 15 = .ok (.aload_n 0, 1) := by decide +kernel
theorem dX11_friday_16 : decode cX11_friday 16 = .ok (.getfield 35, 3) := by decide +kernel
theorem dX11_friday_19 : decode cX11_friday 19 = .ok (.invokevirtual 219, 3) := by decide +kernel
theorem dX11_friday_22 : decode cX11_friday 22 = .ok (.pop, 1) := by decide +kernel
theorem dX11_friday_23 : decode cX11_friday 23 = .ok (.aload_n 0, 1) := by decide +kernel
theorem dX11_friday_24 : decode cX11_friday 24 = .ok (.getfield 35, 3) := by decide +kernel
theorem dX11_friday_27 : decode cX11_friday 27 = .ok (.getfield 223, 3) := by decide +kernel
theorem dX11_friday_30 : decode cX11_friday 30 = .ok (.ireturn, 1) := by decide +kernel
theorem dX11_undo_0 : decode cX11_undo 0 = .ok (.iload_n 1, 1) := by decide +kernel
theorem dX11_undo_1 : decode cX11_undo 1 = .ok (.iconst 1, 1) := by decide +kernel
theorem dX11_undo_2 : decode cX11_undo 2 = .ok (.if_icmp .lt 20, 3) := by decide +kernel
theorem dX11_undo_5 : decode cX11_undo 5 = .ok (.iload_n 1, 1) := by decide +kernel
theorem dX11_undo_6 : decode cX11_undo 6 = .ok (.bipush 10, 2) := by decide +kernel
theorem dX11_undo_8 : decode cX11_undo 8 = .ok (.if_icmp .gt 14, 3) := by decide +kernel
theorem dX11_undo_11 : decode cX11_undo 11 = .ok (.iload_n 1, 1) := by decide +kernel
theorem dX11_undo_12 : decode cX11_undo 12 = .ok (.aload_n 0, 1) := by decide +kernel
theorem dX11_undo_13 : decode cX11_undo 13 = .ok (.getfield 45, 3) := by decide +kernel
theorem dX11_undo_16 : decode cX11_undo 16 = .ok (.getfield 226, 3) := by decide +kernel
theorem dX11_undo_19 : decode cX11_undo 19 = .ok (.if_icmp .le 6, 3) := by decide +kernel
theorem dX11_undo_22 : decode cX11_undo 22 = .ok (.ldc 123, 2) := by decide +kernel
theorem dX11_undo_24 : decode cX11_undo 24 = .ok (.ireturn, 1) := by decide +kernel
theorem dX11_undo_25 : decode cX11_undo 25 = .ok (.iconst 0, 1) := by decide +kernel
theorem dX11_undo_26 : decode cX11_undo 26 = .ok (.istore_n 2, 1) := by decide +kernel
theorem dX11_undo_27 : decode cX11_undo 27 = .ok (.iload_n 2, 1) := by decide +kernel
theorem dX11_undo_28 : decode cX11_undo 28 = .ok (.iload_n 1, 1) := by decide +kernel
theorem dX11_undo_29 : decode cX11_undo 29 = .ok (.if_icmp .ge 20, 3) := by decide +kernel
theorem dX11_undo_32 : decode cX11_undo 32 = .ok (.aload_n 0, 1) := by decide +kernel
theorem dX11_undo_33 : decode cX11_undo 33 = .ok (.getfield 45, 3) := by decide +kernel
theorem dX11_undo_36 : decode cX11_undo 36 = .ok (.aload_n 0, 1) := by decide +kernel
theorem dX11_undo_37 : decode cX11_undo 37 = .ok (.getfield 35, 3) := by decide +kernel
theorem dX11_undo_40 : decode cX11_undo 40 = .ok (.invokevirtual 229, 3) := by decide +kernel
theorem dX11_undo_43 : decode cX11_undo 43 = .ok (.iinc 2 1, 3) := by decide +kernel
theorem dX11_undo_46 : decode cX11_undo 46 = .ok (.goto (-19), 3) := by decide +kernel
theorem dX11_undo_49 : decode cX11_undo 49 = .ok (.aload_n 0, 1) := by decide +kernel
theorem dX11_undo_50 : decode cX11_undo 50 = .ok (.getfield 45, 3) := by decide +kernel
theorem dX11_undo_53 : decode cX11_undo 53 = .ok (.getfield 226, 3) := by decide +kernel
theorem dX11_undo_56 : decode cX11_undo 56 = .ok (.ireturn, 1) := by decide +kernel
theorem dX11_judge_0 : decode cX11_judge 0 = .ok (.iload_n 1, 1) := by decide +kernel
theorem dX11_judge_1 : decode cX11_judge 1 = .ok (.invokestatic 232, 3) := by decide +kernel
theorem dX11_judge_4 : decode cX11_judge 4 = .ok (.ifCond .eq 12, 3) := by decide +kernel
theorem dX11_judge_7 : decode cX11_judge 7 = .ok (.iload_n 2, 1) := by decide +kernel
theorem dX11_judge_8 : decode cX11_judge 8 = .ok (.ifCond .lt 8, 3) := by decide +kernel
theorem dX11_judge_11 : decode cX11_judge 11 = .ok (.iload_n 2, 1) := by decide +kernel
theorem dX11_judge_12 : decode cX11_judge 12 = .ok (.iconst 3, 1) := by decide +kernel
theorem dX11_judge_13 : decode cX11_judge 13 = .ok (.if_icmp .le 6, 3) := by decide +kernel
theorem dX11_judge_16 : decode cX11_judge 16 = .ok (.ldc 155, 2) := by decide +kernel
theorem dX11_judge_18 : decode cX11_judge 18 = .ok (.ireturn, 1) := by decide +kernel
theorem dX11_judge_19 : decode cX11_judge 19 = .ok (.aload_n 0, 1) := by decide +kernel
theorem dX11_judge_20 : decode cX11_judge 20 = .ok (.getfield 58, 3) := by decide +kernel
theorem dX11_judge_23 : decode cX11_judge 23 = .ok (.iload_n 1, 1) := by decide +kernel
theorem dX11_judge_24 : decode cX11_judge 24 = .ok (.aaload, 1) := by decide +kernel
theorem dX11_judge_25 : decode cX11_judge 25 = .ok (.astore_n 3, 1) := by decide +kernel
theorem dX11_judge_26 : decode cX11_judge 26 = .ok (.aload_n 3, 1) := by decide +kernel
theorem dX11_judge_27 : decode cX11_judge 27 = .ok (.invokevirtual 235, 3) := by decide +kernel
theorem dX11_judge_30 : decode cX11_judge 30 = .ok (.ifCond .eq 6, 3) := by decide +kernel
theorem dX11_judge_33 : decode cX11_judge 33 = .ok (.ldc 239, 2) := by decide +kernel
theorem dX11_judge_35 : decode cX11_judge 35 = .ok (.ireturn, 1) := by decide +kernel
theorem dX11_judge_36 : decode cX11_judge 36 = .ok (.aload_n 0, 1) := by decide +kernel
theorem dX11_judge_37 : decode cX11_judge 37 = .ok (.getfield 39, 3) := by decide +kernel
theorem dX11_judge_40 : decode cX11_judge 40 = .ok (.aload_n 0, 1) := by decide +kernel
theorem dX11_judge_41 : decode cX11_judge 41 = .ok (.getfield 35, 3) := by decide +kernel
theorem dX11_judge_44 : decode cX11_judge 44 = .ok (.invokevirtual 194, 3) := by decide +kernel
theorem dX11_judge_47 : decode cX11_judge 47 = .ok (.iconst 0, 1) := by decide +kernel
theorem dX11_judge_48 : decode cX11_judge 48 = .ok (.istore 4, 2) := by decide +kernel
theorem dX11_judge_50 : decode cX11_judge 50 = .ok (.iconst 0, 1) := by decide +kernel
theorem dX11_judge_51 : decode cX11_judge 51 = .ok (.istore 5, 2) := by decide +kernel
theorem dX11_judge_53 : decode cX11_judge 53 = .ok (.iconst 0, 1) := by decide +kernel
theorem dX11_judge_54 : decode cX11_judge 54 = .ok (.istore 6, 2) := by decide +kernel
theorem dX11_judge_56 : decode cX11_judge 56 = .ok (.iload 6, 2) := by decide +kernel
theorem dX11_judge_58 : decode cX11_judge 58 = .ok (.aload_n 3, 1) := by decide +kernel
theorem dX11_judge_59 : decode cX11_judge 59 = .ok (.getfield 240, 3) := by decide +kernel
theorem dX11_judge_62 : decode cX11_judge 62 = .ok (.if_icmp .ge 37, 3) := by decide +kernel
theorem dX11_judge_65 : decode cX11_judge 65 = .ok (.iload 5, 2) := by decide +kernel
theorem dX11_judge_67 : decode cX11_judge 67 = .ok (.ifCond .ne 32, 3) := by decide +kernel
theorem dX11_judge_70 : decode cX11_judge 70 = .ok (.iload 6, 2) := by decide +kernel
theorem dX11_judge_72 : decode cX11_judge 72 = .ok (.istore 4, 2) := by decide +kernel
theorem dX11_judge_74 : decode cX11_judge 74 = .ok (.aload_n 0, 1) := by decide +kernel
theorem dX11_judge_75 : decode cX11_judge 75 = .ok (.getfield 114, 3) := by decide +kernel
theorem dX11_judge_78 : decode cX11_judge 78 = .ok (.aload_n 0, 1) := by decide +kernel
theorem dX11_judge_79 : decode cX11_judge 79 = .ok (.getfield 39, 3) := by decide +kernel
theorem dX11_judge_82 : decode cX11_judge 82 = .ok (.aload_n 3, 1) := by decide +kernel
theorem dX11_judge_83 : decode cX11_judge 83 = .ok (.iload 6, 2) := by decide +kernel
theorem dX11_judge_85 : decode cX11_judge 85 = .ok (.invokevirtual 241, 3) := by decide +kernel
theorem dX11_judge_88 : decode cX11_judge 88 = .ok (.invokevirtual 245, 3) := by decide +kernel
theorem dX11_judge_91 : decode cX11_judge 91 = .ok (.istore 5, 2) := by decide +kernel
theorem dX11_judge_93 : decode cX11_judge 93 = .ok (.iinc 6 1, 3) := by decide +kernel
theorem dX11_judge_96 : decode cX11_judge 96 = .ok (.goto (-40), 3) := by decide +kernel
theorem dX11_judge_99 : decode cX11_judge 99 = .ok (.iload_n 2, 1) := by decide +kernel
theorem dX11_judge_100 : decode cX11_judge 100 = .ok (.tableswitch 51 0 2 #[28, 40, 43], 28) := by decide +kernel
theorem dX11_judge_128 : decode cX11_judge 128 = .ok (.iload 5, 2) := by decide +kernel
theorem dX11_judge_130 : decode cX11_judge 130 = .ok (.ifCond .ne 7, 3) := by decide +kernel
theorem dX11_judge_133 : decode cX11_judge 133 = .ok (.iconst (-1), 1) := by decide +kernel
theorem dX11_judge_134 : decode cX11_judge 134 = .ok (.goto 5, 3) := by decide +kernel
theorem dX11_judge_137 : decode cX11_judge 137 = .ok (.iload 4, 2) := by decide +kernel
theorem dX11_judge_139 : decode cX11_judge 139 = .ok (.ireturn, 1) := by decide +kernel
theorem dX11_judge_140 : decode cX11_judge 140 = .ok (.iload 5, 2) := by decide +kernel
theorem dX11_judge_142 : decode cX11_judge 142 = .ok (.ireturn, 1) := by decide +kernel
theorem dX11_judge_143 : decode cX11_judge 143 = .ok (.aload_n 0, 1) := by decide +kernel
theorem dX11_judge_144 : decode cX11_judge 144 = .ok (.getfield 39, 3) := by decide +kernel
theorem dX11_judge_147 : decode cX11_judge 147 = .ok (.invokevirtual 249, 3) := by decide +kernel
theorem dX11_judge_150 : decode cX11_judge 150 = .ok (.ireturn, 1) := by decide +kernel
theorem dX11_judge_151 : decode cX11_judge 151 = .ok (.aload_n 0, 1) := by decide +kernel
theorem dX11_judge_152 : decode cX11_judge 152 = .ok (.getfield 39, 3) := by decide +kernel
theorem dX11_judge_155 : decode cX11_judge 155 = .ok (.invokevirtual 253, 3) := by decide +kernel
theorem dX11_judge_158 : decode cX11_judge 158 = .ok (.ireturn, 1) := by decide +kernel
theorem dX11_does_0 : decode cX11_does 0 = .ok (.iload_n 1, 1) := by decide +kernel
theorem dX11_does_1 : decode cX11_does 1 = .ok (.invokestatic 232, 3) := by decide +kernel
theorem dX11_does_4 : decode cX11_does 4 = .ok (.ifCond .ne 6, 3) := by decide +kernel
theorem dX11_does_7 : decode cX11_does 7 = .ok (.ldc 155, 2) := by decide +kernel
theorem dX11_does_9 : decode cX11_does 9 = .ok (.ireturn, 1) := by decide +kernel
theorem dX11_does_10 : decode cX11_does 10 = .ok (.aload_n 0, 1) := by decide +kernel
theorem dX11_does_11 : decode cX11_does 11 = .ok (.getfield 58, 3) := by decide +kernel
theorem dX11_does_14 : decode cX11_does 14 = .ok (.iload_n 1, 1) := by decide +kernel
theorem dX11_does_15 : decode cX11_does 15 = .ok (.aaload, 1) := by decide +kernel
theorem dX11_does_16 : decode cX11_does 16 = .ok (.astore_n 2, 1) := by decide +kernel
theorem dX11_does_17 : decode cX11_does 17 = .ok (.aload_n 2, 1) := by decide +kernel
theorem dX11_does_18 : decode cX11_does 18 = .ok (.invokevirtual 235, 3) := by decide +kernel
theorem dX11_does_21 : decode cX11_does 21 = .ok (.ifCond .eq 6, 3) := by decide +kernel
theorem dX11_does_24 : decode cX11_does 24 = .ok (.ldc 239, 2) := by decide +kernel
theorem dX11_does_26 : decode cX11_does 26 = .ok (.ireturn, 1) := by decide +kernel
theorem dX11_does_27 : decode cX11_does 27 = .ok (.aload_n 0, 1) := by decide +kernel
theorem dX11_does_28 : decode cX11_does 28 = .ok (.getfield 39, 3) := by decide +kernel
theorem dX11_does_31 : decode cX11_does 31 = .ok (.aload_n 0, 1) := by decide +kernel
theorem dX11_does_32 : decode cX11_does 32 = .ok (.getfield 35, 3) := by decide +kernel
theorem dX11_does_35 : decode cX11_does 35 = .ok (.invokevirtual 194, 3) := by decide +kernel
theorem dX11_does_38 : decode cX11_does 38 = .ok (.iconst 0, 1) := by decide +kernel
theorem dX11_does_39 : decode cX11_does 39 = .ok (.istore_n 3, 1) := by decide +kernel
theorem dX11_does_40 : decode cX11_does 40 = .ok (.iconst 0, 1) := by decide +kernel
theorem dX11_does_41 : decode cX11_does 41 = .ok (.istore 4, 2) := by decide +kernel
theorem dX11_does_43 : decode cX11_does 43 = .ok (.iload 4, 2) := by decide +kernel
theorem dX11_does_45 : decode cX11_does 45 = .ok (.aload_n 2, 1) := by decide +kernel
theorem dX11_does_46 : decode cX11_does 46 = .ok (.getfield 240, 3) := by decide +kernel
theorem dX11_does_49 : decode cX11_does 49 = .ok (.if_icmp .ge 32, 3) := by decide +kernel
theorem dX11_does_52 : decode cX11_does 52 = .ok (.aload_n 0, 1) := by decide +kernel
theorem dX11_does_53 : decode cX11_does 53 = .ok (.getfield 114, 3) := by decide +kernel
theorem dX11_does_56 : decode cX11_does 56 = .ok (.aload_n 0, 1) := by decide +kernel
theorem dX11_does_57 : decode cX11_does 57 = .ok (.getfield 35, 3) := by decide +kernel
theorem dX11_does_60 : decode cX11_does 60 = .ok (.aload_n 2, 1) := by decide +kernel
theorem dX11_does_61 : decode cX11_does 61 = .ok (.iload 4, 2) := by decide +kernel
theorem dX11_does_63 : decode cX11_does 63 = .ok (.invokevirtual 241, 3) := by decide +kernel
theorem dX11_does_66 : decode cX11_does 66 = .ok (.invokevirtual 245, 3) := by decide +kernel
theorem dX11_does_69 : decode cX11_does 69 = .ok (.ifCond .ne 12, 3) := by decide +kernel
theorem dX11_does_72 : decode cX11_does 72 = .ok (.iinc 3 1, 3) := by decide +kernel
theorem dX11_does_75 : decode cX11_does 75 = .ok (.iinc 4 1, 3) := by decide +kernel
theorem dX11_does_78 : decode cX11_does 78 = .ok (.goto (-35), 3) := by decide +kernel
theorem dX11_does_81 : decode cX11_does 81 = .ok (.iload_n 3, 1) := by decide +kernel
theorem dX11_does_82 : decode cX11_does 82 = .ok (.ifCond .le 14, 3) := by decide +kernel
theorem dX11_does_85 : decode cX11_does 85 = .ok (.aload_n 0, 1) := by decide +kernel
theorem dX11_does_86 : decode cX11_does 86 = .ok (.getfield 45, 3) := by decide +kernel
theorem dX11_does_89 : decode cX11_does 89 = .ok (.aload_n 0, 1) := by decide +kernel
theorem dX11_does_90 : decode cX11_does 90 = .ok (.getfield 39, 3) := by decide +kernel
theorem dX11_does_93 : decode cX11_does 93 = .ok (.invokevirtual 203, 3) := by decide +kernel
theorem dX11_does_96 : decode cX11_does 96 = .ok (.iload_n 3, 1) := by decide +kernel
theorem dX11_does_97 : decode cX11_does 97 = .ok (.ireturn, 1) := by decide +kernel
theorem dX11_term_0 : decode cX11_term 0 = .ok (.iload_n 2, 1) := by decide +kernel
theorem dX11_term_1 : decode cX11_term 1 = .ok (.iconst 1, 1) := by decide +kernel
theorem dX11_term_2 : decode cX11_term 2 = .ok (.if_icmp .lt 9, 3) := by decide +kernel
theorem dX11_term_5 : decode cX11_term 5 = .ok (.iload_n 2, 1) := by decide +kernel
theorem dX11_term_6 : decode cX11_term 6 = .ok (.bipush 40, 2) := by decide +kernel
theorem dX11_term_8 : decode cX11_term 8 = .ok (.if_icmp .le 6, 3) := by decide +kernel
theorem dX11_term_11 : decode cX11_term 11 = .ok (.ldc 123, 2) := by decide +kernel
theorem dX11_term_13 : decode cX11_term 13 = .ok (.ireturn, 1) := by decide +kernel
theorem dX11_term_14 : decode cX11_term 14 = .ok (.aload_n 0, 1) := by decide +kernel
theorem dX11_term_15 : decode cX11_term 15 = .ok (.getfield 39, 3) := by decide +kernel
theorem dX11_term_18 : decode cX11_term 18 = .ok (.aload_n 0, 1) := by decide +kernel
theorem dX11_term_19 : decode cX11_term 19 = .ok (.getfield 35, 3) := by decide +kernel
theorem dX11_term_22 : decode cX11_term 22 = .ok (.invokevirtual 194, 3) := by decide +kernel
theorem dX11_term_25 : decode cX11_term 25 = .ok (.aload_n 0, 1) := by decide +kernel
theorem dX11_term_26 : decode cX11_term 26 = .ok (.getfield 114, 3) := by decide +kernel
theorem dX11_term_29 : decode cX11_term 29 = .ok (.iload_n 1, 1) := by decide +kernel
theorem dX11_term_30 : decode cX11_term 30 = .ok (.invokevirtual 256, 3) := by decide +kernel
theorem dX11_term_33 : decode cX11_term 33 = .ok (.iconst 0, 1) := by decide +kernel
theorem dX11_term_34 : decode cX11_term 34 = .ok (.istore_n 3, 1) := by decide +kernel
theorem dX11_term_35 : decode cX11_term 35 = .ok (.iconst 0, 1) := by decide +kernel
theorem dX11_term_36 : decode cX11_term 36 = .ok (.istore 4, 2) := by decide +kernel
theorem dX11_term_38 : decode cX11_term 38 = .ok (.iload 4, 2) := by decide +kernel
theorem dX11_term_40 : decode cX11_term 40 = .ok (.iload_n 2, 1) := by decide +kernel
theorem dX11_term_41 : decode cX11_term 41 = .ok (.if_icmp .ge 26, 3) := by decide +kernel
theorem dX11_term_44 : decode cX11_term 44 = .ok (.aload_n 0, 1) := by decide +kernel
theorem dX11_term_45 : decode cX11_term 45 = .ok (.getfield 114, 3) := by decide +kernel
theorem dX11_term_48 : decode cX11_term 48 = .ok (.aload_n 0, 1) := by decide +kernel
theorem dX11_term_49 : decode cX11_term 49 = .ok (.getfield 35, 3) := by decide +kernel
theorem dX11_term_52 : decode cX11_term 52 = .ok (.invokevirtual 259, 3) := by decide +kernel
theorem dX11_term_55 : decode cX11_term 55 = .ok (.ifCond .ne 6, 3) := by decide +kernel
theorem dX11_term_58 : decode cX11_term 58 = .ok (.iinc 3 1, 3) := by decide +kernel
theorem dX11_term_61 : decode cX11_term 61 = .ok (.iinc 4 1, 3) := by decide +kernel
theorem dX11_term_64 : decode cX11_term 64 = .ok (.goto (-26), 3) := by decide +kernel
theorem dX11_term_67 : decode cX11_term 67 = .ok (.iload_n 3, 1) := by decide +kernel
theorem dX11_term_68 : decode cX11_term 68 = .ok (.ifCond .le 14, 3) := by decide +kernel
theorem dX11_term_71 : decode cX11_term 71 = .ok (.aload_n 0, 1) := by decide +kernel
theorem dX11_term_72 : decode cX11_term 72 = .ok (.getfield 45, 3) := by decide +kernel
theorem dX11_term_75 : decode cX11_term 75 = .ok (.aload_n 0, 1) := by decide +kernel
theorem dX11_term_76 : decode cX11_term 76 = .ok (.getfield 39, 3) := by decide +kernel
theorem dX11_term_79 : decode cX11_term 79 = .ok (.invokevirtual 203, 3) := by decide +kernel
theorem dX11_term_82 : decode cX11_term 82 = .ok (.iload_n 3, 1) := by decide +kernel
theorem dX11_term_83 : decode cX11_term 83 = .ok (.ireturn, 1) := by decide +kernel
theorem dX11_comes_0 : decode cX11_comes 0 = .ok (.aload_n 0, 1) := by decide +kernel
theorem dX11_comes_1 : decode cX11_comes 1 = .ok (.iload_n 1, 1) := by decide +kernel
theorem dX11_comes_2 : decode cX11_comes 2 = .ok (.iload_n 2, 1) := by decide +kernel
theorem dX11_comes_3 : decode cX11_comes 3 = .ok (.invokevirtual 262, 3) := by decide +kernel
theorem dX11_comes_6 : decode cX11_comes 6 = .ok (.ifCond .eq 15, 3) := by decide +kernel
theorem dX11_comes_9 : decode cX11_comes 9 = .ok (.iload_n 3, 1) := by decide +kernel
theorem dX11_comes_10 : decode cX11_comes 10 = .ok (.invokestatic 265, 3) := by decide +kernel
theorem dX11_comes_13 : decode cX11_comes 13 = .ok (.ifCond .ne 11, 3) := by decide +kernel
theorem dX11_comes_16 : decode cX11_comes 16 = .ok (.iload_n 3, 1) := by decide +kernel
theorem dX11_comes_17 : decode cX11_comes 17 = .ok (.iconst 2, 1) := by decide +kernel
theorem dX11_comes_18 : decode cX11_comes 18 = .ok (.if_icmp .eq 6, 3) := by decide +kernel
theorem dX11_comes_21 : decode cX11_comes 21 = .ok (.ldc 155, 2) := by decide +kernel
theorem dX11_comes_23 : decode cX11_comes 23 = .ok (.ireturn, 1) := by decide +kernel
theorem dX11_comes_24 : decode cX11_comes 24 = .ok (.aload_n 0, 1) := by decide +kernel
theorem dX11_comes_25 : decode cX11_comes 25 = .ok (.iload_n 1, 1) := by decide +kernel
theorem dX11_comes_26 : decode cX11_comes 26 = .ok (.iload_n 2, 1) := by decide +kernel
theorem dX11_comes_27 : decode cX11_comes 27 = .ok (.invokevirtual 186, 3) := by decide +kernel
theorem dX11_comes_30 : decode cX11_comes 30 = .ok (.aload_n 0, 1) := by decide +kernel
theorem dX11_comes_31 : decode cX11_comes 31 = .ok (.getfield 89, 3) := by decide +kernel
theorem dX11_comes_34 : decode cX11_comes 34 = .ok (.aload_n 0, 1) := by decide +kernel
theorem dX11_comes_35 : decode cX11_comes 35 = .ok (.getfield 35, 3) := by decide +kernel
theorem dX11_comes_38 : decode cX11_comes 38 = .ok (.getfield 156, 3) := by decide +kernel
theorem dX11_comes_41 : decode cX11_comes 41 = .ok (.iload_n 1, 1) := by decide +kernel
theorem dX11_comes_42 : decode cX11_comes 42 = .ok (.iaload, 1) := by decide +kernel
theorem dX11_comes_43 : decode cX11_comes 43 = .ok (.invokevirtual 268, 3) := by decide +kernel
theorem dX11_comes_46 : decode cX11_comes 46 = .ok (.iload_n 3, 1) := by decide +kernel
theorem dX11_comes_47 : decode cX11_comes 47 = .ok (.tableswitch 49 0 2 #[25, 33, 41], 25) := by decide +kernel
theorem dX11_comes_72 : decode cX11_comes 72 = .ok (.aload_n 0, 1) := by decide +kernel
theorem dX11_comes_73 : decode cX11_comes 73 = .ok (.getfield 89, 3) := by decide +kernel
theorem dX11_comes_76 : decode cX11_comes 76 = .ok (.getfield 271, 3) := by decide +kernel
theorem dX11_comes_79 : decode cX11_comes 79 = .ok (.ireturn, 1) := by decide +kernel
theorem dX11_comes_80 : decode cX11_comes 80 = .ok (.aload_n 0, 1) := by decide +kernel
theorem dX11_comes_81 : decode cX11_comes 81 = .ok (.getfield 89, 3) := by decide +kernel
theorem dX11_comes_84 : decode cX11_comes 84 = .ok (.getfield 272, 3) := by decide +kernel
theorem dX11_comes_87 : decode cX11_comes 87 = .ok (.ireturn, 1) := by decide +kernel
theorem dX11_comes_88 : decode cX11_comes 88 = .ok (.aload_n 0, 1) := by decide +kernel
theorem dX11_comes_89 : decode cX11_comes 89 = .ok (.getfield 89, 3) := by decide +kernel
theorem dX11_comes_92 : decode cX11_comes 92 = .ok (.getfield 275, 3) := by decide +kernel
theorem dX11_comes_95 : decode cX11_comes 95 = .ok (.ireturn, 1) := by decide +kernel
theorem dX11_comes_96 : decode cX11_comes 96 = .ok (.aload_n 0, 1) := by decide +kernel
theorem dX11_comes_97 : decode cX11_comes 97 = .ok (.getfield 89, 3) := by decide +kernel
theorem dX11_comes_100 : decode cX11_comes 100 = .ok (.iload_n 3, 1) := by decide +kernel
theorem dX11_comes_101 : decode cX11_comes 101 = .ok (.bipush 10, 2) := by decide +kernel
theorem dX11_comes_103 : decode cX11_comes 103 = .ok (.isub, 1) := by decide +kernel
theorem dX11_comes_104 : decode cX11_comes 104 = .ok (.invokevirtual 278, 3) := by decide +kernel
theorem dX11_comes_107 : decode cX11_comes 107 = .ok (.ireturn, 1) := by decide +kernel
theorem dX11_best_0 : decode cX11_best 0 = .ok (.aload_n 0, 1) := by decide +kernel
theorem dX11_best_1 : decode cX11_best 1 = .ok (.iload_n 1, 1) := by decide +kernel
theorem dX11_best_2 : decode cX11_best 2 = .ok (.iload_n 2, 1) := by decide +kernel
theorem dX11_best_3 : decode cX11_best 3 = .ok (.invokevirtual 262, 3) := by decide +kernel
theorem dX11_best_6 : decode cX11_best 6 = .ok (.ifCond .eq 11, 3) := by decide +kernel
theorem dX11_best_9 : decode cX11_best 9 = .ok (.iload 4, 2) := by decide +kernel
theorem dX11_best_11 : decode cX11_best 11 = .ok (.invokestatic 265, 3) := by decide +kernel
theorem dX11_best_14 : decode cX11_best 14 = .ok (.ifCond .ne 6, 3) := by decide +kernel
theorem dX11_best_17 : decode cX11_best 17 = .ok (.ldc 155, 2) := by decide +kernel
theorem dX11_best_19 : decode cX11_best 19 = .ok (.ireturn, 1) := by decide +kernel
theorem dX11_best_20 : decode cX11_best 20 = .ok (.iload_n 3, 1) := by decide +kernel
theorem dX11_best_21 : decode cX11_best 21 = .ok (.invokestatic 281, 3) := by decide +kernel
theorem dX11_best_24 : decode cX11_best 24 = .ok (.ifCond .ne 6, 3) := by decide +kernel
theorem dX11_best_27 : decode cX11_best 27 = .ok (.ldc 123, 2) := by decide +kernel
theorem dX11_best_29 : decode cX11_best 29 = .ok (.ireturn, 1) := by decide +kernel
theorem dX11_best_30 : decode cX11_best 30 = .ok (.aload_n 0, 1) := by decide +kernel
theorem dX11_best_31 : decode cX11_best 31 = .ok (.iload_n 1, 1) := by decide +kernel
theorem dX11_best_32 : decode cX11_best 32 = .ok (.iload_n 2, 1) := by decide +kernel
theorem dX11_best_33 : decode cX11_best 33 = .ok (.iload_n 3, 1) := by decide +kernel
theorem dX11_best_34 : decode cX11_best 34 = .ok (.aload_n 0, 1) := by decide +kernel
theorem dX11_best_35 : decode cX11_best 35 = .ok (.getfield 96, 3) := by decide +kernel
theorem dX11_best_38 : decode cX11_best 38 = .ok (.getfield 284, 3) := by decide +kernel
theorem dX11_best_41 : decode cX11_best 41 = .ok (.invokevirtual 287, 3) := by decide +kernel
theorem dX11_best_44 : decode cX11_best 44 = .ok (.ifCond .eq 15, 3) := by decide +kernel
theorem dX11_best_47 : decode cX11_best 47 = .ok (.aload_n 0, 1) := by decide +kernel
theorem dX11_best_48 : decode cX11_best 48 = .ok (.getfield 96, 3) := by decide +kernel
theorem dX11_best_51 : decode cX11_best 51 = .ok (.iload 4, 2) := by decide +kernel
theorem dX11_best_53 : decode cX11_best 53 = .ok (.invokevirtual 291, 3) := by decide +kernel
theorem dX11_best_56 : decode cX11_best 56 = .ok (.goto 6, 3) := by decide +kernel
theorem dX11_best_59 : decode cX11_best 59 = .ok (.ldc_w 294, 3) := by decide +kernel
theorem dX11_best_62 : decode cX11_best 62 = .ok (.ireturn, 1) := by decide +kernel
theorem dX11_rows_0 : decode cX11_rows 0 = .ok (.aload_n 0, 1) := by decide +kernel
theorem dX11_rows_1 : decode cX11_rows 1 = .ok (.iload_n 1, 1) := by decide +kernel
theorem dX11_rows_2 : decode cX11_rows 2 = .ok (.iload_n 2, 1) := by decide +kernel
theorem dX11_rows_3 : decode cX11_rows 3 = .ok (.invokevirtual 262, 3) := by decide +kernel
theorem dX11_rows_6 : decode cX11_rows 6 = .ok (.ifCond .ne 7, 3) := by decide +kernel
theorem dX11_rows_9 : decode cX11_rows 9 = .ok (.ldc2_w 295, 3) := by decide +kernel
theorem dX11_rows_12 : decode cX11_rows 12 = .ok (.lreturn, 1) := by decide +kernel
theorem dX11_rows_13 : decode cX11_rows 13 = .ok (.iload_n 3, 1) := by decide +kernel
theorem dX11_rows_14 : decode cX11_rows 14 = .ok (.invokestatic 281, 3) := by decide +kernel
theorem dX11_rows_17 : decode cX11_rows 17 = .ok (.ifCond .ne 7, 3) := by decide +kernel
theorem dX11_rows_20 : decode cX11_rows 20 = .ok (.ldc2_w 297, 3) := by decide +kernel
theorem dX11_rows_23 : decode cX11_rows 23 = .ok (.lreturn, 1) := by decide +kernel
theorem dX11_rows_24 : decode cX11_rows 24 = .ok (.aload_n 0, 1) := by decide +kernel
theorem dX11_rows_25 : decode cX11_rows 25 = .ok (.iload_n 1, 1) := by decide +kernel
theorem dX11_rows_26 : decode cX11_rows 26 = .ok (.iload_n 2, 1) := by decide +kernel
theorem dX11_rows_27 : decode cX11_rows 27 = .ok (.invokevirtual 186, 3) := by decide +kernel
theorem dX11_rows_30 : decode cX11_rows 30 = .ok (.aload_n 0, 1) := by decide +kernel
theorem dX11_rows_31 : decode cX11_rows 31 = .ok (.getfield 96, 3) := by decide +kernel
theorem dX11_rows_34 : decode cX11_rows 34 = .ok (.aload_n 0, 1) := by decide +kernel
theorem dX11_rows_35 : decode cX11_rows 35 = .ok (.getfield 35, 3) := by decide +kernel
theorem dX11_rows_38 : decode cX11_rows 38 = .ok (.getfield 156, 3) := by decide +kernel
theorem dX11_rows_41 : decode cX11_rows 41 = .ok (.iload_n 1, 1) := by decide +kernel
theorem dX11_rows_42 : decode cX11_rows 42 = .ok (.iaload, 1) := by decide +kernel
theorem dX11_rows_43 : decode cX11_rows 43 = .ok (.iload_n 3, 1) := by decide +kernel
theorem dX11_rows_44 : decode cX11_rows 44 = .ok (.aload_n 0, 1) := by decide +kernel
theorem dX11_rows_45 : decode cX11_rows 45 = .ok (.getfield 96, 3) := by decide +kernel
theorem dX11_rows_48 : decode cX11_rows 48 = .ok (.getfield 284, 3) := by decide +kernel
theorem dX11_rows_51 : decode cX11_rows 51 = .ok (.invokevirtual 299, 3) := by decide +kernel
theorem dX11_rows_54 : decode cX11_rows 54 = .ok (.lreturn, 1) := by decide +kernel
theorem dX11_thriftiest_0 : decode cX11_thriftiest 0 = .ok (.aload_n 0, 1) := by decide +kernel
theorem dX11_thriftiest_1 : decode cX11_thriftiest 1 = .ok (.iload_n 1, 1) := by decide +kernel
theorem dX11_thriftiest_2 : decode cX11_thriftiest 2 = .ok (.iload_n 2, 1) := by decide +kernel
theorem dX11_thriftiest_3 : decode cX11_thriftiest 3 = .ok (.invokevirtual 262, 3) := by decide +kernel
theorem dX11_thriftiest_6 : decode cX11_thriftiest 6 = .ok (.ifCond .ne 6, 3) := by decide +kernel
theorem dX11_thriftiest_9 : decode cX11_thriftiest 9 = .ok (.ldc 155, 2) := by decide +kernel
theorem dX11_thriftiest_11 : decode cX11_thriftiest 11 = .ok (.ireturn, 1) := by decide +kernel
theorem dX11_thriftiest_12 : decode cX11_thriftiest 12 = .ok (.aload_n 0, 1) := by decide +kernel
theorem dX11_thriftiest_13 : decode cX11_thriftiest 13 = .ok (.iload_n 1, 1) := by decide +kernel
theorem dX11_thriftiest_14 : decode cX11_thriftiest 14 = .ok (.iload_n 2, 1) := by decide +kernel
theorem dX11_thriftiest_15 : decode cX11_thriftiest 15 = .ok (.invokevirtual 303, 3) := by decide +kernel
theorem dX11_thriftiest_18 : decode cX11_thriftiest 18 = .ok (.astore_n 3, 1) := by decide +kernel
theorem dX11_thriftiest_19 : decode cX11_thriftiest 19 = .ok (.bipush 20, 2) := by decide +kernel
theorem dX11_thriftiest_21 : decode cX11_thriftiest 21 = .ok (.istore 4, 2) := by decide +kernel
theorem dX11_thriftiest_23 : decode cX11_thriftiest 23 = .ok (.iload 4, 2) := by decide +kernel
theorem dX11_thriftiest_25 : decode cX11_thriftiest 25 = .ok (.bipush (-20), 2) := by decide +kernel
theorem dX11_thriftiest_27 : decode cX11_thriftiest 27 = .ok (.if_icmp .lt 25, 3) := by decide +kernel
theorem dX11_thriftiest_30 : decode cX11_thriftiest 30 = .ok (.aload_n 3, 1) := by decide +kernel
theorem dX11_thriftiest_31 : decode cX11_thriftiest 31 = .ok (.iload 4, 2) := by decide +kernel
theorem dX11_thriftiest_33 : decode cX11_thriftiest 33 = .ok (.bipush 20, 2) := by decide +kernel
theorem dX11_thriftiest_35 : decode cX11_thriftiest 35 = .ok (.iadd, 1) := by decide +kernel
theorem dX11_thriftiest_36 : decode cX11_thriftiest 36 = .ok (.iaload, 1) := by decide +kernel
theorem dX11_thriftiest_37 : decode cX11_thriftiest 37 = .ok (.ldc_w 307, 3) := by decide +kernel
theorem dX11_thriftiest_40 : decode cX11_thriftiest 40 = .ok (.if_icmp .eq 6, 3) := by decide +kernel
theorem dX11_thriftiest_43 : decode cX11_thriftiest 43 = .ok (.iload 4, 2) := by decide +kernel
theorem dX11_thriftiest_45 : decode cX11_thriftiest 45 = .ok (.ireturn, 1) := by decide +kernel
theorem dX11_thriftiest_46 : decode cX11_thriftiest 46 = .ok (.iinc 4 (-1), 3) := by decide +kernel
theorem dX11_thriftiest_49 : decode cX11_thriftiest 49 = .ok (.goto (-26), 3) := by decide +kernel
theorem dX11_thriftiest_52 : decode cX11_thriftiest 52 = .ok (.ldc_w 294, 3) := by decide +kernel
theorem dX11_thriftiest_55 : decode cX11_thriftiest 55 = .ok (.ireturn, 1) := by decide +kernel
theorem dX11_least_0 : decode cX11_least 0 = .ok (.aload_n 0, 1) := by decide +kernel
theorem dX11_least_1 : decode cX11_least 1 = .ok (.iload_n 1, 1) := by decide +kernel
theorem dX11_least_2 : decode cX11_least 2 = .ok (.iload_n 2, 1) := by decide +kernel
theorem dX11_least_3 : decode cX11_least 3 = .ok (.invokevirtual 262, 3) := by decide +kernel
theorem dX11_least_6 : decode cX11_least 6 = .ok (.ifCond .ne 6, 3) := by decide +kernel
theorem dX11_least_9 : decode cX11_least 9 = .ok (.ldc 155, 2) := by decide +kernel
theorem dX11_least_11 : decode cX11_least 11 = .ok (.ireturn, 1) := by decide +kernel
theorem dX11_least_12 : decode cX11_least 12 = .ok (.iload_n 3, 1) := by decide +kernel
theorem dX11_least_13 : decode cX11_least 13 = .ok (.invokestatic 281, 3) := by decide +kernel
theorem dX11_least_16 : decode cX11_least 16 = .ok (.ifCond .ne 6, 3) := by decide +kernel
theorem dX11_least_19 : decode cX11_least 19 = .ok (.ldc 123, 2) := by decide +kernel
theorem dX11_least_21 : decode cX11_least 21 = .ok (.ireturn, 1) := by decide +kernel
theorem dX11_least_22 : decode cX11_least 22 = .ok (.aload_n 0, 1) := by decide +kernel
theorem dX11_least_23 : decode cX11_least 23 = .ok (.iload_n 1, 1) := by decide +kernel
theorem dX11_least_24 : decode cX11_least 24 = .ok (.iload_n 2, 1) := by decide +kernel
theorem dX11_least_25 : decode cX11_least 25 = .ok (.invokevirtual 186, 3) := by decide +kernel
theorem dX11_least_28 : decode cX11_least 28 = .ok (.aload_n 0, 1) := by decide +kernel
theorem dX11_least_29 : decode cX11_least 29 = .ok (.getfield 96, 3) := by decide +kernel
theorem dX11_least_32 : decode cX11_least 32 = .ok (.bipush (-20), 2) := by decide +kernel
theorem dX11_least_34 : decode cX11_least 34 = .ok (.bipush 20, 2) := by decide +kernel
theorem dX11_least_36 : decode cX11_least 36 = .ok (.iload_n 3, 1) := by decide +kernel
theorem dX11_least_37 : decode cX11_least 37 = .ok (.aload_n 0, 1) := by decide +kernel
theorem dX11_least_38 : decode cX11_least 38 = .ok (.getfield 96, 3) := by decide +kernel
theorem dX11_least_41 : decode cX11_least 41 = .ok (.getfield 284, 3) := by decide +kernel
theorem dX11_least_44 : decode cX11_least 44 = .ok (.invokevirtual 308, 3) := by decide +kernel
theorem dX11_least_47 : decode cX11_least 47 = .ok (.bipush (-20), 2) := by decide +kernel
theorem dX11_least_49 : decode cX11_least 49 = .ok (.istore 5, 2) := by decide +kernel
theorem dX11_least_51 : decode cX11_least 51 = .ok (.iload 5, 2) := by decide +kernel
theorem dX11_least_53 : decode cX11_least 53 = .ok (.bipush 20, 2) := by decide +kernel
theorem dX11_least_55 : decode cX11_least 55 = .ok (.if_icmp .gt 38, 3) := by decide +kernel
theorem dX11_least_58 : decode cX11_least 58 = .ok (.aload_n 0, 1) := by decide +kernel
theorem dX11_least_59 : decode cX11_least 59 = .ok (.getfield 96, 3) := by decide +kernel
theorem dX11_least_62 : decode cX11_least 62 = .ok (.iload 5, 2) := by decide +kernel
theorem dX11_least_64 : decode cX11_least 64 = .ok (.invokevirtual 312, 3) := by decide +kernel
theorem dX11_least_67 : decode cX11_least 67 = .ok (.istore 6, 2) := by decide +kernel
theorem dX11_least_69 : decode cX11_least 69 = .ok (.iload 6, 2) := by decide +kernel
theorem dX11_least_71 : decode cX11_least 71 = .ok (.ldc_w 307, 3) := by decide +kernel
theorem dX11_least_74 : decode cX11_least 74 = .ok (.if_icmp .eq 13, 3) := by decide +kernel
theorem dX11_least_77 : decode cX11_least 77 = .ok (.iload 6, 2) := by decide +kernel
theorem dX11_least_79 : decode cX11_least 79 = .ok (.iload 4, 2) := by decide +kernel
theorem dX11_least_81 : decode cX11_least 81 = .ok (.if_icmp .lt 6, 3) := by decide +kernel
theorem dX11_least_84 : decode cX11_least 84 = .ok (.iload 5, 2) := by decide +kernel
theorem dX11_least_86 : decode cX11_least 86 = .ok (.ireturn, 1) := by decide +kernel
theorem dX11_least_87 : decode cX11_least 87 = .ok (.iinc 5 1, 3) := by decide +kernel
theorem dX11_least_90 : decode cX11_least 90 = .ok (.goto (-39), 3) := by decide +kernel
theorem dX11_least_93 : decode cX11_least 93 = .ok (.ldc_w 294, 3) := by decide +kernel
theorem dX11_least_96 : decode cX11_least 96 = .ok (.ireturn, 1) := by decide +kernel
theorem dX11_squarest_0 : decode cX11_squarest 0 = .ok (.aload_n 0, 1) := by decide +kernel
theorem dX11_squarest_1 : decode cX11_squarest 1 = .ok (.iload_n 1, 1) := by decide +kernel
theorem dX11_squarest_2 : decode cX11_squarest 2 = .ok (.iload_n 2, 1) := by decide +kernel
theorem dX11_squarest_3 : decode cX11_squarest 3 = .ok (.invokevirtual 262, 3) := by decide +kernel
theorem dX11_squarest_6 : decode cX11_squarest 6 = .ok (.ifCond .ne 6, 3) := by decide +kernel
theorem dX11_squarest_9 : decode cX11_squarest 9 = .ok (.ldc 155, 2) := by decide +kernel
theorem dX11_squarest_11 : decode cX11_squarest 11 = .ok (.ireturn, 1) := by decide +kernel
theorem dX11_squarest_12 : decode cX11_squarest 12 = .ok (.aload_n 0, 1) := by decide +kernel
theorem dX11_squarest_13 : decode cX11_squarest 13 = .ok (.iload_n 1, 1) := by decide +kernel
theorem dX11_squarest_14 : decode cX11_squarest 14 = .ok (.iload_n 2, 1) := by decide +kernel
theorem dX11_squarest_15 : decode cX11_squarest 15 = .ok (.invokevirtual 303, 3) := by decide +kernel
theorem dX11_squarest_18 : decode cX11_squarest 18 = .ok (.astore_n 3, 1) := by decide +kernel
theorem dX11_squarest_19 : decode cX11_squarest 19 = .ok (.ldc_w 307, 3) := by decide +kernel
theorem dX11_squarest_22 : decode cX11_squarest 22 = .ok (.istore 4, 2) := by decide +kernel
theorem dX11_squarest_24 : decode cX11_squarest 24 = .ok (.ldc_w 307, 3) := by decide +kernel
theorem dX11_squarest_27 : decode cX11_squarest 27 = .ok (.istore 5, 2) := by decide +kernel
theorem dX11_squarest_29 : decode cX11_squarest 29 = .ok (.ldc_w 294, 3) := by decide +kernel
theorem dX11_squarest_32 : decode cX11_squarest 32 = .ok (.istore 6, 2) := by decide +kernel
theorem dX11_squarest_34 : decode cX11_squarest 34 = .ok (.bipush 20, 2) := by decide +kernel
theorem dX11_squarest_36 : decode cX11_squarest 36 = .ok (.istore 7, 2) := by decide +kernel
theorem dX11_squarest_38 : decode cX11_squarest 38 = .ok (.iload 7, 2) := by decide +kernel
theorem dX11_squarest_40 : decode cX11_squarest 40 = .ok (.bipush (-20), 2) := by decide +kernel
theorem dX11_squarest_42 : decode cX11_squarest 42 = .ok (.if_icmp .lt 56, 3) := by decide +kernel
theorem dX11_squarest_45 : decode cX11_squarest 45 = .ok (.iload 4, 2) := by decide +kernel
theorem dX11_squarest_47 : decode cX11_squarest 47 = .ok (.aload_n 3, 1) := by decide +kernel
theorem dX11_squarest_48 : decode cX11_squarest 48 = .ok (.iload 7, 2) := by decide +kernel
theorem dX11_squarest_50 : decode cX11_squarest 50 = .ok (.bipush 20, 2) := by decide +kernel
theorem dX11_squarest_52 : decode cX11_squarest 52 = .ok (.iadd, 1) := by decide +kernel
theorem dX11_squarest_53 : decode cX11_squarest 53 = .ok (.iaload, 1) := by decide +kernel
theorem dX11_squarest_54 : decode cX11_squarest 54 = .ok (.invokestatic 315, 3) := by decide +kernel
theorem dX11_squarest_57 : decode cX11_squarest 57 = .ok (.istore 4, 2) := by decide +kernel
theorem dX11_squarest_59 : decode cX11_squarest 59 = .ok (.iload 4, 2) := by decide +kernel
theorem dX11_squarest_61 : decode cX11_squarest 61 = .ok (.ldc_w 307, 3) := by decide +kernel
theorem dX11_squarest_64 : decode cX11_squarest 64 = .ok (.if_icmp .eq 28, 3) := by decide +kernel
theorem dX11_squarest_67 : decode cX11_squarest 67 = .ok (.iload 4, 2) := by decide +kernel
theorem dX11_squarest_69 : decode cX11_squarest 69 = .ok (.iconst 3, 1) := by decide +kernel
theorem dX11_squarest_70 : decode cX11_squarest 70 = .ok (.iload 7, 2) := by decide +kernel
theorem dX11_squarest_72 : decode cX11_squarest 72 = .ok (.imul, 1) := by decide +kernel
theorem dX11_squarest_73 : decode cX11_squarest 73 = .ok (.iadd, 1) := by decide +kernel
theorem dX11_squarest_74 : decode cX11_squarest 74 = .ok (.iload 5, 2) := by decide +kernel
theorem dX11_squarest_76 : decode cX11_squarest 76 = .ok (.if_icmp .lt 16, 3) := by decide +kernel
theorem dX11_squarest_79 : decode cX11_squarest 79 = .ok (.iload 4, 2) := by decide +kernel
theorem dX11_squarest_81 : decode cX11_squarest 81 = .ok (.iconst 3, 1) := by decide +kernel
theorem dX11_squarest_82 : decode cX11_squarest 82 = .ok (.iload 7, 2) := by decide +kernel
theorem dX11_squarest_84 : decode cX11_squarest 84 = .ok (.imul, 1) := by decide +kernel
theorem dX11_squarest_85 : decode cX11_squarest 85 = .ok (.iadd, 1) := by decide +kernel
theorem dX11_squarest_86 : decode cX11_squarest 86 = .ok (.istore 5, 2) := by decide +kernel
theorem dX11_squarest_88 : decode cX11_squarest 88 = .ok (.iload 7, 2) := by decide +kernel
theorem dX11_squarest_90 : decode cX11_squarest 90 = .ok (.istore 6, 2) := by decide +kernel
theorem dX11_squarest_92 : decode cX11_squarest 92 = .ok (.iinc 7 (-1), 3) := by decide +kernel
theorem dX11_squarest_95 : decode cX11_squarest 95 = .ok (.goto (-57), 3) := by decide +kernel
theorem dX11_squarest_98 : decode cX11_squarest 98 = .ok (.iload 6, 2) := by decide +kernel
theorem dX11_squarest_100 : decode cX11_squarest 100 = .ok (.ireturn, 1) := by decide +kernel
theorem dX11_order_0 : decode cX11_order 0 = .ok (.iload 4, 2) := by decide +kernel
theorem dX11_order_2 : decode cX11_order 2 = .ok (.bipush 10, 2) := by decide +kernel
theorem dX11_order_4 : decode cX11_order 4 = .ok (.isub, 1) := by decide +kernel
theorem dX11_order_5 : decode cX11_order 5 = .ok (.istore 5, 2) := by decide +kernel
theorem dX11_order_7 : decode cX11_order 7 = .ok (.aload_n 0, 1) := by decide +kernel
theorem dX11_order_8 : decode cX11_order 8 = .ok (.getfield 71, 3) := by decide +kernel
theorem dX11_order_11 : decode cX11_order 11 = .ok (.iload_n 1, 1) := by decide +kernel
theorem dX11_order_12 : decode cX11_order 12 = .ok (.invokevirtual 151, 3) := by decide +kernel
theorem dX11_order_15 : decode cX11_order 15 = .ok (.ifCond .eq 19, 3) := by decide +kernel
theorem dX11_order_18 : decode cX11_order 18 = .ok (.iload 4, 2) := by decide +kernel
theorem dX11_order_20 : decode cX11_order 20 = .ok (.ifCond .eq 17, 3) := by decide +kernel
theorem dX11_order_23 : decode cX11_order 23 = .ok (.iload 5, 2) := by decide +kernel
theorem dX11_order_25 : decode cX11_order 25 = .ok (.ifCond .lt 9, 3) := by decide +kernel
theorem dX11_order_28 : decode cX11_order 28 = .ok (.iload 5, 2) := by decide +kernel
theorem dX11_order_30 : decode cX11_order 30 = .ok (.iconst 4, 1) := by decide +kernel
theorem dX11_order_31 : decode cX11_order 31 = .ok (.if_icmp .lt 6, 3) := by decide +kernel
theorem dX11_order_34 : decode cX11_order 34 = .ok (.ldc 155, 2) := by decide +kernel
theorem dX11_order_36 : decode cX11_order 36 = .ok (.ireturn, 1) := by decide +kernel
theorem dX11_order_37 : decode cX11_order 37 = .ok (.iload_n 2, 1) := by decide +kernel
theorem dX11_order_38 : decode cX11_order 38 = .ok (.ifCond .le 23, 3) := by decide +kernel
theorem dX11_order_41 : decode cX11_order 41 = .ok (.iload_n 2, 1) := by decide +kernel
theorem dX11_order_42 : decode cX11_order 42 = .ok (.iconst 1, 1) := by decide +kernel
theorem dX11_order_43 : decode cX11_order 43 = .ok (.aload_n 0, 1) := by decide +kernel
theorem dX11_order_44 : decode cX11_order 44 = .ok (.getfield 71, 3) := by decide +kernel
theorem dX11_order_47 : decode cX11_order 47 = .ok (.getfield 320, 3) := by decide +kernel
theorem dX11_order_50 : decode cX11_order 50 = .ok (.ishl, 1) := by decide +kernel
theorem dX11_order_51 : decode cX11_order 51 = .ok (.if_icmp .ge 10, 3) := by decide +kernel
theorem dX11_order_54 : decode cX11_order 54 = .ok (.iload_n 3, 1) := by decide +kernel
theorem dX11_order_55 : decode cX11_order 55 = .ok (.invokestatic 281, 3) := by decide +kernel
theorem dX11_order_58 : decode cX11_order 58 = .ok (.ifCond .ne 6, 3) := by decide +kernel
theorem dX11_order_61 : decode cX11_order 61 = .ok (.ldc 123, 2) := by decide +kernel
theorem dX11_order_63 : decode cX11_order 63 = .ok (.ireturn, 1) := by decide +kernel
theorem dX11_order_64 : decode cX11_order 64 = .ok (.aload_n 0, 1) := by decide +kernel
theorem dX11_order_65 : decode cX11_order 65 = .ok (.getfield 105, 3) := by decide +kernel
theorem dX11_order_68 : decode cX11_order 68 = .ok (.iload_n 1, 1) := by decide +kernel
theorem dX11_order_69 : decode cX11_order 69 = .ok (.aload_n 0, 1) := by decide +kernel
theorem dX11_order_70 : decode cX11_order 70 = .ok (.getfield 35, 3) := by decide +kernel
theorem dX11_order_73 : decode cX11_order 73 = .ok (.iload_n 2, 1) := by decide +kernel
theorem dX11_order_74 : decode cX11_order 74 = .ok (.iload_n 3, 1) := by decide +kernel
theorem dX11_order_75 : decode cX11_order 75 = .ok (.invokevirtual 323, 3) := by decide +kernel
theorem dX11_order_78 : decode cX11_order 78 = .ok (.aload_n 0, 1) := by decide +kernel
theorem dX11_order_79 : decode cX11_order 79 = .ok (.getfield 105, 3) := by decide +kernel
theorem dX11_order_82 : decode cX11_order 82 = .ok (.getfield 327, 3) := by decide +kernel
theorem dX11_order_85 : decode cX11_order 85 = .ok (.ldc_w 307, 3) := by decide +kernel
theorem dX11_order_88 : decode cX11_order 88 = .ok (.if_icmp .ne 7, 3) := by decide +kernel
theorem dX11_order_91 : decode cX11_order 91 = .ok (.ldc_w 294, 3) := by decide +kernel
theorem dX11_order_94 : decode cX11_order 94 = .ok (.ireturn, 1) := by decide +kernel
theorem dX11_order_95 : decode cX11_order 95 = .ok (.iload 4, 2) := by decide +kernel
theorem dX11_order_97 : decode cX11_order 97 = .ok (.ifCond .ne 13, 3) := by decide +kernel
theorem dX11_order_100 : decode cX11_order 100 = .ok (.aload_n 0, 1) := by decide +kernel
theorem dX11_order_101 : decode cX11_order 101 = .ok (.getfield 105, 3) := by decide +kernel
theorem dX11_order_104 : decode cX11_order 104 = .ok (.getfield 327, 3) := by decide +kernel
theorem dX11_order_107 : decode cX11_order 107 = .ok (.goto 12, 3) := by decide +kernel
theorem dX11_order_110 : decode cX11_order 110 = .ok (.aload_n 0, 1) := by decide +kernel
theorem dX11_order_111 : decode cX11_order 111 = .ok (.getfield 105, 3) := by decide +kernel
theorem dX11_order_114 : decode cX11_order 114 = .ok (.iload 5, 2) := by decide +kernel
theorem dX11_order_116 : decode cX11_order 116 = .ok (.invokevirtual 328, 3) := by decide +kernel
theorem dX11_order_119 : decode cX11_order 119 = .ok (.ireturn, 1) := by decide +kernel
theorem dX11_mostPieces_0 : decode cX11_mostPieces 0 = .ok (.aload_n 0, 1) := by decide +kernel
theorem dX11_mostPieces_1 : decode cX11_mostPieces 1 = .ok (.getfield 71, 3) := by decide +kernel
theorem dX11_mostPieces_4 : decode cX11_mostPieces 4 = .ok (.iload_n 1, 1) := by decide +kernel
theorem dX11_mostPieces_5 : decode cX11_mostPieces 5 = .ok (.invokevirtual 151, 3) := by decide +kernel
theorem dX11_mostPieces_8 : decode cX11_mostPieces 8 = .ok (.ifCond .ne 6, 3) := by decide +kernel
theorem dX11_mostPieces_11 : decode cX11_mostPieces 11 = .ok (.ldc 155, 2) := by decide +kernel
theorem dX11_mostPieces_13 : decode cX11_mostPieces 13 = .ok (.ireturn, 1) := by decide +kernel
theorem dX11_mostPieces_14 : decode cX11_mostPieces 14 = .ok (.iload_n 2, 1) := by decide +kernel
theorem dX11_mostPieces_15 : decode cX11_mostPieces 15 = .ok (.invokestatic 281, 3) := by decide +kernel
theorem dX11_mostPieces_18 : decode cX11_mostPieces 18 = .ok (.ifCond .ne 6, 3) := by decide +kernel
theorem dX11_mostPieces_21 : decode cX11_mostPieces 21 = .ok (.ldc 123, 2) := by decide +kernel
theorem dX11_mostPieces_23 : decode cX11_mostPieces 23 = .ok (.ireturn, 1) := by decide +kernel
theorem dX11_mostPieces_24 : decode cX11_mostPieces 24 = .ok (.aload_n 0, 1) := by decide +kernel
theorem dX11_mostPieces_25 : decode cX11_mostPieces 25 = .ok (.getfield 105, 3) := by decide +kernel
theorem dX11_mostPieces_28 : decode cX11_mostPieces 28 = .ok (.iload_n 1, 1) := by decide +kernel
theorem dX11_mostPieces_29 : decode cX11_mostPieces 29 = .ok (.aload_n 0, 1) := by decide +kernel
theorem dX11_mostPieces_30 : decode cX11_mostPieces 30 = .ok (.getfield 35, 3) := by decide +kernel
theorem dX11_mostPieces_33 : decode cX11_mostPieces 33 = .ok (.iload_n 2, 1) := by decide +kernel
theorem dX11_mostPieces_34 : decode cX11_mostPieces 34 = .ok (.invokevirtual 331, 3) := by decide +kernel
theorem dX11_mostPieces_37 : decode cX11_mostPieces 37 = .ok (.ireturn, 1) := by decide +kernel
theorem dX11_gladdest_0 : decode cX11_gladdest 0 = .ok (.aload_n 0, 1) := by decide +kernel
theorem dX11_gladdest_1 : decode cX11_gladdest 1 = .ok (.getfield 71, 3) := by decide +kernel
theorem dX11_gladdest_4 : decode cX11_gladdest 4 = .ok (.iload_n 1, 1) := by decide +kernel
theorem dX11_gladdest_5 : decode cX11_gladdest 5 = .ok (.invokevirtual 176, 3) := by decide +kernel
theorem dX11_gladdest_8 : decode cX11_gladdest 8 = .ok (.ifCond .ne 6, 3) := by decide +kernel
theorem dX11_gladdest_11 : decode cX11_gladdest 11 = .ok (.ldc 155, 2) := by decide +kernel
theorem dX11_gladdest_13 : decode cX11_gladdest 13 = .ok (.ireturn, 1) := by decide +kernel
theorem dX11_gladdest_14 : decode cX11_gladdest 14 = .ok (.iconst (-1), 1) := by decide +kernel
theorem dX11_gladdest_15 : decode cX11_gladdest 15 = .ok (.istore_n 2, 1) := by decide +kernel
theorem dX11_gladdest_16 : decode cX11_gladdest 16 = .ok (.ldc_w 307, 3) := by decide +kernel
theorem dX11_gladdest_19 : decode cX11_gladdest 19 = .ok (.istore_n 3, 1) := by decide +kernel
theorem dX11_gladdest_20 : decode cX11_gladdest 20 = .ok (.iconst 0, 1) := by decide +kernel
theorem dX11_gladdest_21 : decode cX11_gladdest 21 = .ok (.istore 4, 2) := by decide +kernel
theorem dX11_gladdest_23 : decode cX11_gladdest 23 = .ok (.iload 4, 2) := by decide +kernel
theorem dX11_gladdest_25 : decode cX11_gladdest 25 = .ok (.aload_n 0, 1) := by decide +kernel
theorem dX11_gladdest_26 : decode cX11_gladdest 26 = .ok (.getfield 71, 3) := by decide +kernel
theorem dX11_gladdest_29 : decode cX11_gladdest 29 = .ok (.getfield 335, 3) := by decide +kernel
theorem dX11_gladdest_32 : decode cX11_gladdest 32 = .ok (.if_icmp .ge 49, 3) := by decide +kernel
theorem dX11_gladdest_35 : decode cX11_gladdest 35 = .ok (.aload_n 0, 1) := by decide +kernel
theorem dX11_gladdest_36 : decode cX11_gladdest 36 = .ok (.iload 4, 2) := by decide +kernel
theorem dX11_gladdest_38 : decode cX11_gladdest 38 = .ok (.iload_n 1, 1) := by decide +kernel
theorem dX11_gladdest_39 : decode cX11_gladdest 39 = .ok (.iconst 0, 1) := by decide +kernel
theorem dX11_gladdest_40 : decode cX11_gladdest 40 = .ok (.aload_n 0, 1) := by decide +kernel
theorem dX11_gladdest_41 : decode cX11_gladdest 41 = .ok (.getfield 96, 3) := by decide +kernel
theorem dX11_gladdest_44 : decode cX11_gladdest 44 = .ok (.getfield 284, 3) := by decide +kernel
theorem dX11_gladdest_47 : decode cX11_gladdest 47 = .ok (.invokevirtual 287, 3) := by decide +kernel
theorem dX11_gladdest_50 : decode cX11_gladdest 50 = .ok (.ifCond .eq 25, 3) := by decide +kernel
theorem dX11_gladdest_53 : decode cX11_gladdest 53 = .ok (.aload_n 0, 1) := by decide +kernel
theorem dX11_gladdest_54 : decode cX11_gladdest 54 = .ok (.getfield 96, 3) := by decide +kernel
theorem dX11_gladdest_57 : decode cX11_gladdest 57 = .ok (.getfield 338, 3) := by decide +kernel
theorem dX11_gladdest_60 : decode cX11_gladdest 60 = .ok (.iload_n 3, 1) := by decide +kernel
theorem dX11_gladdest_61 : decode cX11_gladdest 61 = .ok (.if_icmp .le 14, 3) := by decide +kernel
theorem dX11_gladdest_64 : decode cX11_gladdest 64 = .ok (.aload_n 0, 1) := by decide +kernel
theorem dX11_gladdest_65 : decode cX11_gladdest 65 = .ok (.getfield 96, 3) := by decide +kernel
theorem dX11_gladdest_68 : decode cX11_gladdest 68 = .ok (.getfield 338, 3) := by decide +kernel
theorem dX11_gladdest_71 : decode cX11_gladdest 71 = .ok (.istore_n 3, 1) := by decide +kernel
theorem dX11_gladdest_72 : decode cX11_gladdest 72 = .ok (.iload 4, 2) := by decide +kernel
theorem dX11_gladdest_74 : decode cX11_gladdest 74 = .ok (.istore_n 2, 1) := by decide +kernel
theorem dX11_gladdest_75 : decode cX11_gladdest 75 = .ok (.iinc 4 1, 3) := by decide +kernel
theorem dX11_gladdest_78 : decode cX11_gladdest 78 = .ok (.goto (-55), 3) := by decide +kernel
theorem dX11_gladdest_81 : decode cX11_gladdest 81 = .ok (.iload_n 2, 1) := by decide +kernel
theorem dX11_gladdest_82 : decode cX11_gladdest 82 = .ok (.ireturn, 1) := by decide +kernel
theorem dX11_lends_0 : decode cX11_lends 0 = .ok (.aload_n 0, 1) := by decide +kernel
theorem dX11_lends_1 : decode cX11_lends 1 = .ok (.iload_n 1, 1) := by decide +kernel
theorem dX11_lends_2 : decode cX11_lends 2 = .ok (.iload_n 2, 1) := by decide +kernel
theorem dX11_lends_3 : decode cX11_lends 3 = .ok (.invokevirtual 262, 3) := by decide +kernel
theorem dX11_lends_6 : decode cX11_lends 6 = .ok (.ifCond .eq 18, 3) := by decide +kernel
theorem dX11_lends_9 : decode cX11_lends 9 = .ok (.aload_n 0, 1) := by decide +kernel
theorem dX11_lends_10 : decode cX11_lends 10 = .ok (.iload_n 3, 1) := by decide +kernel
theorem dX11_lends_11 : decode cX11_lends 11 = .ok (.iload 4, 2) := by decide +kernel
theorem dX11_lends_13 : decode cX11_lends 13 = .ok (.invokevirtual 262, 3) := by decide +kernel
theorem dX11_lends_16 : decode cX11_lends 16 = .ok (.ifCond .eq 8, 3) := by decide +kernel
theorem dX11_lends_19 : decode cX11_lends 19 = .ok (.iload_n 1, 1) := by decide +kernel
theorem dX11_lends_20 : decode cX11_lends 20 = .ok (.iload_n 3, 1) := by decide +kernel
theorem dX11_lends_21 : decode cX11_lends 21 = .ok (.if_icmp .ne 6, 3) := by decide +kernel
theorem dX11_lends_24 : decode cX11_lends 24 = .ok (.ldc 155, 2) := by decide +kernel
theorem dX11_lends_26 : decode cX11_lends 26 = .ok (.ireturn, 1) := by decide +kernel
theorem dX11_lends_27 : decode cX11_lends 27 = .ok (.aload_n 0, 1) := by decide +kernel
theorem dX11_lends_28 : decode cX11_lends 28 = .ok (.getfield 35, 3) := by decide +kernel
theorem dX11_lends_31 : decode cX11_lends 31 = .ok (.getfield 156, 3) := by decide +kernel
theorem dX11_lends_34 : decode cX11_lends 34 = .ok (.iload_n 1, 1) := by decide +kernel
theorem dX11_lends_35 : decode cX11_lends 35 = .ok (.iaload, 1) := by decide +kernel
theorem dX11_lends_36 : decode cX11_lends 36 = .ok (.istore 5, 2) := by decide +kernel
theorem dX11_lends_38 : decode cX11_lends 38 = .ok (.aload_n 0, 1) := by decide +kernel
theorem dX11_lends_39 : decode cX11_lends 39 = .ok (.getfield 35, 3) := by decide +kernel
theorem dX11_lends_42 : decode cX11_lends 42 = .ok (.getfield 156, 3) := by decide +kernel
theorem dX11_lends_45 : decode cX11_lends 45 = .ok (.iload_n 3, 1) := by decide +kernel
theorem dX11_lends_46 : decode cX11_lends 46 = .ok (.iaload, 1) := by decide +kernel
theorem dX11_lends_47 : decode cX11_lends 47 = .ok (.istore 6, 2) := by decide +kernel
theorem dX11_lends_49 : decode cX11_lends 49 = .ok (.aload_n 0, 1) := by decide +kernel
theorem dX11_lends_50 : decode cX11_lends 50 = .ok (.iload_n 1, 1) := by decide +kernel
theorem dX11_lends_51 : decode cX11_lends 51 = .ok (.iload_n 2, 1) := by decide +kernel
theorem dX11_lends_52 : decode cX11_lends 52 = .ok (.invokevirtual 186, 3) := by decide +kernel
theorem dX11_lends_55 : decode cX11_lends 55 = .ok (.aload_n 0, 1) := by decide +kernel
theorem dX11_lends_56 : decode cX11_lends 56 = .ok (.getfield 96, 3) := by decide +kernel
theorem dX11_lends_59 : decode cX11_lends 59 = .ok (.bipush (-20), 2) := by decide +kernel
theorem dX11_lends_61 : decode cX11_lends 61 = .ok (.iload 5, 2) := by decide +kernel
theorem dX11_lends_63 : decode cX11_lends 63 = .ok (.iconst 0, 1) := by decide +kernel
theorem dX11_lends_64 : decode cX11_lends 64 = .ok (.aload_n 0, 1) := by decide +kernel
theorem dX11_lends_65 : decode cX11_lends 65 = .ok (.getfield 96, 3) := by decide +kernel
theorem dX11_lends_68 : decode cX11_lends 68 = .ok (.getfield 284, 3) := by decide +kernel
theorem dX11_lends_71 : decode cX11_lends 71 = .ok (.invokevirtual 308, 3) := by decide +kernel
theorem dX11_lends_74 : decode cX11_lends 74 = .ok (.bipush (-20), 2) := by decide +kernel
theorem dX11_lends_76 : decode cX11_lends 76 = .ok (.istore 7, 2) := by decide +kernel
theorem dX11_lends_78 : decode cX11_lends 78 = .ok (.iload 7, 2) := by decide +kernel
theorem dX11_lends_80 : decode cX11_lends 80 = .ok (.iload 5, 2) := by decide +kernel
theorem dX11_lends_82 : decode cX11_lends 82 = .ok (.if_icmp .gt 28, 3) := by decide +kernel
theorem dX11_lends_85 : decode cX11_lends 85 = .ok (.aload_n 0, 1) := by decide +kernel
theorem dX11_lends_86 : decode cX11_lends 86 = .ok (.getfield 66, 3) := by decide +kernel
theorem dX11_lends_89 : decode cX11_lends 89 = .ok (.iload 7, 2) := by decide +kernel
theorem dX11_lends_91 : decode cX11_lends 91 = .ok (.bipush 20, 2) := by decide +kernel
theorem dX11_lends_93 : decode cX11_lends 93 = .ok (.iadd, 1) := by decide +kernel
theorem dX11_lends_94 : decode cX11_lends 94 = .ok (.aload_n 0, 1) := by decide +kernel
theorem dX11_lends_95 : decode cX11_lends 95 = .ok (.getfield 96, 3) := by decide +kernel
theorem dX11_lends_98 : decode cX11_lends 98 = .ok (.iload 7, 2) := by decide +kernel
theorem dX11_lends_100 : decode cX11_lends 100 = .ok (.invokevirtual 312, 3) := by decide +kernel
theorem dX11_lends_103 : decode cX11_lends 103 = .ok (.iastore, 1) := by decide +kernel
theorem dX11_lends_104 : decode cX11_lends 104 = .ok (.iinc 7 1, 3) := by decide +kernel
theorem dX11_lends_107 : decode cX11_lends 107 = .ok (.goto (-29), 3) := by decide +kernel
theorem dX11_lends_110 : decode cX11_lends 110 = .ok (.aload_n 0, 1) := by decide +kernel
theorem dX11_lends_111 : decode cX11_lends 111 = .ok (.iload_n 3, 1) := by decide +kernel
theorem dX11_lends_112 : decode cX11_lends 112 = .ok (.iload 4, 2) := by decide +kernel
theorem dX11_lends_114 : decode cX11_lends 114 = .ok (.invokevirtual 186, 3) := by decide +kernel
theorem dX11_lends_117 : decode cX11_lends 117 = .ok (.aload_n 0, 1) := by decide +kernel
theorem dX11_lends_118 : decode cX11_lends 118 = .ok (.getfield 96, 3) := by decide +kernel
theorem dX11_lends_121 : decode cX11_lends 121 = .ok (.iload 6, 2) := by decide +kernel
theorem dX11_lends_123 : decode cX11_lends 123 = .ok (.bipush 20, 2) := by decide +kernel
theorem dX11_lends_125 : decode cX11_lends 125 = .ok (.iconst 0, 1) := by decide +kernel
theorem dX11_lends_126 : decode cX11_lends 126 = .ok (.aload_n 0, 1) := by decide +kernel
theorem dX11_lends_127 : decode cX11_lends 127 = .ok (.getfield 96, 3) := by decide +kernel
theorem dX11_lends_130 : decode cX11_lends 130 = .ok (.getfield 284, 3) := by decide +kernel
theorem dX11_lends_133 : decode cX11_lends 133 = .ok (.invokevirtual 308, 3) := by decide +kernel
theorem dX11_lends_136 : decode cX11_lends 136 = .ok (.iconst (-1), 1) := by decide +kernel
theorem dX11_lends_137 : decode cX11_lends 137 = .ok (.istore 7, 2) := by decide +kernel
theorem dX11_lends_139 : decode cX11_lends 139 = .ok (.ldc_w 307, 3) := by decide +kernel
theorem dX11_lends_142 : decode cX11_lends 142 = .ok (.istore 8, 2) := by decide +kernel
theorem dX11_lends_144 : decode cX11_lends 144 = .ok (.iconst 0, 1) := by decide +kernel
theorem dX11_lends_145 : decode cX11_lends 145 = .ok (.istore 9, 2) := by decide +kernel
theorem dX11_lends_147 : decode cX11_lends 147 = .ok (.iload 5, 2) := by decide +kernel
theorem dX11_lends_149 : decode cX11_lends 149 = .ok (.iload 9, 2) := by decide +kernel
theorem dX11_lends_151 : decode cX11_lends 151 = .ok (.isub, 1) := by decide +kernel
theorem dX11_lends_152 : decode cX11_lends 152 = .ok (.bipush (-20), 2) := by decide +kernel
theorem dX11_lends_154 : decode cX11_lends 154 = .ok (.if_icmp .lt 85, 3) := by decide +kernel
theorem dX11_lends_157 : decode cX11_lends 157 = .ok (.iload 6, 2) := by decide +kernel
theorem dX11_lends_159 : decode cX11_lends 159 = .ok (.iload 9, 2) := by decide +kernel
theorem dX11_lends_161 : decode cX11_lends 161 = .ok (.iadd, 1) := by decide +kernel
theorem dX11_lends_162 : decode cX11_lends 162 = .ok (.bipush 20, 2) := by decide +kernel
theorem dX11_lends_164 : decode cX11_lends 164 = .ok (.if_icmp .gt 75, 3) := by decide +kernel
theorem dX11_lends_167 : decode cX11_lends 167 = .ok (.aload_n 0, 1) := by decide +kernel
theorem dX11_lends_168 : decode cX11_lends 168 = .ok (.getfield 66, 3) := by decide +kernel
theorem dX11_lends_171 : decode cX11_lends 171 = .ok (.iload 5, 2) := by decide +kernel
theorem dX11_lends_173 : decode cX11_lends 173 = .ok (.iload 9, 2) := by decide +kernel
theorem dX11_lends_175 : decode cX11_lends 175 = .ok (.isub, 1) := by decide +kernel
theorem dX11_lends_176 : decode cX11_lends 176 = .ok (.bipush 20, 2) := by decide +kernel
theorem dX11_lends_178 : decode cX11_lends 178 = .ok (.iadd, 1) := by decide +kernel
theorem dX11_lends_179 : decode cX11_lends 179 = .ok (.iaload, 1) := by decide +kernel
theorem dX11_lends_180 : decode cX11_lends 180 = .ok (.istore 10, 2) := by decide +kernel
theorem dX11_lends_182 : decode cX11_lends 182 = .ok (.aload_n 0, 1) := by decide +kernel
theorem dX11_lends_183 : decode cX11_lends 183 = .ok (.getfield 96, 3) := by decide +kernel
theorem dX11_lends_186 : decode cX11_lends 186 = .ok (.iload 6, 2) := by decide +kernel
theorem dX11_lends_188 : decode cX11_lends 188 = .ok (.iload 9, 2) := by decide +kernel
theorem dX11_lends_190 : decode cX11_lends 190 = .ok (.iadd, 1) := by decide +kernel
theorem dX11_lends_191 : decode cX11_lends 191 = .ok (.invokevirtual 312, 3) := by decide +kernel
theorem dX11_lends_194 : decode cX11_lends 194 = .ok (.istore 11, 2) := by decide +kernel
theorem dX11_lends_196 : decode cX11_lends 196 = .ok (.iload 10, 2) := by decide +kernel
theorem dX11_lends_198 : decode cX11_lends 198 = .ok (.ldc_w 307, 3) := by decide +kernel
theorem dX11_lends_201 : decode cX11_lends 201 = .ok (.if_icmp .eq 32, 3) := by decide +kernel
theorem dX11_lends_204 : decode cX11_lends 204 = .ok (.iload 11, 2) := by decide +kernel
theorem dX11_lends_206 : decode cX11_lends 206 = .ok (.ldc_w 307, 3) := by decide +kernel
theorem dX11_lends_209 : decode cX11_lends 209 = .ok (.if_icmp .eq 24, 3) := by decide +kernel
theorem dX11_lends_212 : decode cX11_lends 212 = .ok (.iload 10, 2) := by decide +kernel
theorem dX11_lends_214 : decode cX11_lends 214 = .ok (.iload 11, 2) := by decide +kernel
theorem dX11_lends_216 : decode cX11_lends 216 = .ok (.iadd, 1) := by decide +kernel
theorem dX11_lends_217 : decode cX11_lends 217 = .ok (.iload 8, 2) := by decide +kernel
theorem dX11_lends_219 : decode cX11_lends 219 = .ok (.if_icmp .le 14, 3) := by decide +kernel
theorem dX11_lends_222 : decode cX11_lends 222 = .ok (.iload 10, 2) := by decide +kernel
theorem dX11_lends_224 : decode cX11_lends 224 = .ok (.iload 11, 2) := by decide +kernel
theorem dX11_lends_226 : decode cX11_lends 226 = .ok (.iadd, 1) := by decide +kernel
theorem dX11_lends_227 : decode cX11_lends 227 = .ok (.istore 8, 2) := by decide +kernel
theorem dX11_lends_229 : decode cX11_lends 229 = .ok (.iload 9, 2) := by decide +kernel
theorem dX11_lends_231 : decode cX11_lends 231 = .ok (.istore 7, 2) := by decide +kernel
theorem dX11_lends_233 : decode cX11_lends 233 = .ok (.iinc 9 1, 3) := by decide +kernel
theorem dX11_lends_236 : decode cX11_lends 236 = .ok (.goto (-89), 3) := by decide +kernel
theorem dX11_lends_239 : decode cX11_lends 239 = .ok (.iload 7, 2) := by decide +kernel
theorem dX11_lends_241 : decode cX11_lends 241 = .ok (.ireturn, 1) := by decide +kernel
theorem dX11_reply_0 : decode cX11_reply 0 = .ok (.aload_n 0, 1) := by decide +kernel
theorem dX11_reply_1 : decode cX11_reply 1 = .ok (.iload_n 1, 1) := by decide +kernel
theorem dX11_reply_2 : decode cX11_reply 2 = .ok (.iload_n 3, 1) := by decide +kernel
theorem dX11_reply_3 : decode cX11_reply 3 = .ok (.invokevirtual 262, 3) := by decide +kernel
theorem dX11_reply_6 : decode cX11_reply 6 = .ok (.ifCond .eq 27, 3) := by decide +kernel
theorem dX11_reply_9 : decode cX11_reply 9 = .ok (.aload_n 0, 1) := by decide +kernel
theorem dX11_reply_10 : decode cX11_reply 10 = .ok (.getfield 71, 3) := by decide +kernel
theorem dX11_reply_13 : decode cX11_reply 13 = .ok (.iload_n 2, 1) := by decide +kernel
theorem dX11_reply_14 : decode cX11_reply 14 = .ok (.invokevirtual 151, 3) := by decide +kernel
theorem dX11_reply_17 : decode cX11_reply 17 = .ok (.ifCond .eq 16, 3) := by decide +kernel
theorem dX11_reply_20 : decode cX11_reply 20 = .ok (.iload_n 1, 1) := by decide +kernel
theorem dX11_reply_21 : decode cX11_reply 21 = .ok (.iload_n 2, 1) := by decide +kernel
theorem dX11_reply_22 : decode cX11_reply 22 = .ok (.if_icmp .eq 11, 3) := by decide +kernel
theorem dX11_reply_25 : decode cX11_reply 25 = .ok (.iload 4, 2) := by decide +kernel
theorem dX11_reply_27 : decode cX11_reply 27 = .ok (.invokestatic 265, 3) := by decide +kernel
theorem dX11_reply_30 : decode cX11_reply 30 = .ok (.ifCond .ne 6, 3) := by decide +kernel
theorem dX11_reply_33 : decode cX11_reply 33 = .ok (.ldc 155, 2) := by decide +kernel
theorem dX11_reply_35 : decode cX11_reply 35 = .ok (.ireturn, 1) := by decide +kernel
theorem dX11_reply_36 : decode cX11_reply 36 = .ok (.aload_n 0, 1) := by decide +kernel
theorem dX11_reply_37 : decode cX11_reply 37 = .ok (.iload_n 1, 1) := by decide +kernel
theorem dX11_reply_38 : decode cX11_reply 38 = .ok (.iload_n 3, 1) := by decide +kernel
theorem dX11_reply_39 : decode cX11_reply 39 = .ok (.iconst 0, 1) := by decide +kernel
theorem dX11_reply_40 : decode cX11_reply 40 = .ok (.aload_n 0, 1) := by decide +kernel
theorem dX11_reply_41 : decode cX11_reply 41 = .ok (.getfield 96, 3) := by decide +kernel
theorem dX11_reply_44 : decode cX11_reply 44 = .ok (.getfield 284, 3) := by decide +kernel
theorem dX11_reply_47 : decode cX11_reply 47 = .ok (.invokevirtual 287, 3) := by decide +kernel
theorem dX11_reply_50 : decode cX11_reply 50 = .ok (.ifCond .ne 7, 3) := by decide +kernel
theorem dX11_reply_53 : decode cX11_reply 53 = .ok (.ldc_w 294, 3) := by decide +kernel
theorem dX11_reply_56 : decode cX11_reply 56 = .ok (.ireturn, 1) := by decide +kernel
theorem dX11_reply_57 : decode cX11_reply 57 = .ok (.iconst 0, 1) := by decide +kernel
theorem dX11_reply_58 : decode cX11_reply 58 = .ok (.istore 5, 2) := by decide +kernel
theorem dX11_reply_60 : decode cX11_reply 60 = .ok (.iload 5, 2) := by decide +kernel
theorem dX11_reply_62 : decode cX11_reply 62 = .ok (.bipush 12, 2) := by decide +kernel
theorem dX11_reply_64 : decode cX11_reply 64 = .ok (.if_icmp .ge 37, 3) := by decide +kernel
theorem dX11_reply_67 : decode cX11_reply 67 = .ok (.aload_n 0, 1) := by decide +kernel
theorem dX11_reply_68 : decode cX11_reply 68 = .ok (.getfield 62, 3) := by decide +kernel
theorem dX11_reply_71 : decode cX11_reply 71 = .ok (.iload 5, 2) := by decide +kernel
theorem dX11_reply_73 : decode cX11_reply 73 = .ok (.aload_n 0, 1) := by decide +kernel
theorem dX11_reply_74 : decode cX11_reply 74 = .ok (.getfield 96, 3) := by decide +kernel
theorem dX11_reply_77 : decode cX11_reply 77 = .ok (.getfield 339, 3) := by decide +kernel
theorem dX11_reply_80 : decode cX11_reply 80 = .ok (.iload 5, 2) := by decide +kernel
theorem dX11_reply_82 : decode cX11_reply 82 = .ok (.iaload, 1) := by decide +kernel
theorem dX11_reply_83 : decode cX11_reply 83 = .ok (.invokestatic 342, 3) := by decide +kernel
theorem dX11_reply_86 : decode cX11_reply 86 = .ok (.bipush 7, 2) := by decide +kernel
theorem dX11_reply_88 : decode cX11_reply 88 = .ok (.imul, 1) := by decide +kernel
theorem dX11_reply_89 : decode cX11_reply 89 = .ok (.iconst 1, 1) := by decide +kernel
theorem dX11_reply_90 : decode cX11_reply 90 = .ok (.ishr, 1) := by decide +kernel
theorem dX11_reply_91 : decode cX11_reply 91 = .ok (.bipush 31, 2) := by decide +kernel
theorem dX11_reply_93 : decode cX11_reply 93 = .ok (.iand, 1) := by decide +kernel
theorem dX11_reply_94 : decode cX11_reply 94 = .ok (.iastore, 1) := by decide +kernel
theorem dX11_reply_95 : decode cX11_reply 95 = .ok (.iinc 5 1, 3) := by decide +kernel
theorem dX11_reply_98 : decode cX11_reply 98 = .ok (.goto (-38), 3) := by decide +kernel
theorem dX11_reply_101 : decode cX11_reply 101 = .ok (.aload_n 0, 1) := by decide +kernel
theorem dX11_reply_102 : decode cX11_reply 102 = .ok (.iload_n 2, 1) := by decide +kernel
theorem dX11_reply_103 : decode cX11_reply 103 = .ok (.iload_n 3, 1) := by decide +kernel
theorem dX11_reply_104 : decode cX11_reply 104 = .ok (.iconst 0, 1) := by decide +kernel
theorem dX11_reply_105 : decode cX11_reply 105 = .ok (.aload_n 0, 1) := by decide +kernel
theorem dX11_reply_106 : decode cX11_reply 106 = .ok (.getfield 62, 3) := by decide +kernel
theorem dX11_reply_109 : decode cX11_reply 109 = .ok (.invokevirtual 287, 3) := by decide +kernel
theorem dX11_reply_112 : decode cX11_reply 112 = .ok (.ifCond .eq 15, 3) := by decide +kernel
theorem dX11_reply_115 : decode cX11_reply 115 = .ok (.aload_n 0, 1) := by decide +kernel
theorem dX11_reply_116 : decode cX11_reply 116 = .ok (.getfield 96, 3) := by decide +kernel
theorem dX11_reply_119 : decode cX11_reply 119 = .ok (.iload 4, 2) := by decide +kernel
theorem dX11_reply_121 : decode cX11_reply 121 = .ok (.invokevirtual 291, 3) := by decide +kernel
theorem dX11_reply_124 : decode cX11_reply 124 = .ok (.goto 6, 3) := by decide +kernel
theorem dX11_reply_127 : decode cX11_reply 127 = .ok (.ldc_w 294, 3) := by decide +kernel
theorem dX11_reply_130 : decode cX11_reply 130 = .ok (.ireturn, 1) := by decide +kernel
theorem dX11_heard_0 : decode cX11_heard 0 = .ok (.aload_n 0, 1) := by decide +kernel
theorem dX11_heard_1 : decode cX11_heard 1 = .ok (.iload_n 1, 1) := by decide +kernel
theorem dX11_heard_2 : decode cX11_heard 2 = .ok (.iload_n 2, 1) := by decide +kernel
theorem dX11_heard_3 : decode cX11_heard 3 = .ok (.iload_n 3, 1) := by decide +kernel
theorem dX11_heard_4 : decode cX11_heard 4 = .ok (.invokevirtual 345, 3) := by decide +kernel
theorem dX11_heard_7 : decode cX11_heard 7 = .ok (.istore 5, 2) := by decide +kernel
theorem dX11_heard_9 : decode cX11_heard 9 = .ok (.iload 5, 2) := by decide +kernel
theorem dX11_heard_11 : decode cX11_heard 11 = .ok (.ifCond .eq 7, 3) := by decide +kernel
theorem dX11_heard_14 : decode cX11_heard 14 = .ok (.iload 5, 2) := by decide +kernel
theorem dX11_heard_16 : decode cX11_heard 16 = .ok (.i2l, 1) := by decide +kernel
theorem dX11_heard_17 : decode cX11_heard 17 = .ok (.lreturn, 1) := by decide +kernel
theorem dX11_heard_18 : decode cX11_heard 18 = .ok (.iload 4, 2) := by decide +kernel
theorem dX11_heard_20 : decode cX11_heard 20 = .ok (.invokestatic 281, 3) := by decide +kernel
theorem dX11_heard_23 : decode cX11_heard 23 = .ok (.ifCond .ne 14, 3) := by decide +kernel
theorem dX11_heard_26 : decode cX11_heard 26 = .ok (.iload 4, 2) := by decide +kernel
theorem dX11_heard_28 : decode cX11_heard 28 = .ok (.bipush 99, 2) := by decide +kernel
theorem dX11_heard_30 : decode cX11_heard 30 = .ok (.if_icmp .eq 7, 3) := by decide +kernel
theorem dX11_heard_33 : decode cX11_heard 33 = .ok (.ldc2_w 297, 3) := by decide +kernel
theorem dX11_heard_36 : decode cX11_heard 36 = .ok (.lreturn, 1) := by decide +kernel
theorem dX11_heard_37 : decode cX11_heard 37 = .ok (.aload_n 0, 1) := by decide +kernel
theorem dX11_heard_38 : decode cX11_heard 38 = .ok (.iload_n 2, 1) := by decide +kernel
theorem dX11_heard_39 : decode cX11_heard 39 = .ok (.iload_n 3, 1) := by decide +kernel
theorem dX11_heard_40 : decode cX11_heard 40 = .ok (.invokevirtual 186, 3) := by decide +kernel
theorem dX11_heard_43 : decode cX11_heard 43 = .ok (.aload_n 0, 1) := by decide +kernel
theorem dX11_heard_44 : decode cX11_heard 44 = .ok (.getfield 96, 3) := by decide +kernel
theorem dX11_heard_47 : decode cX11_heard 47 = .ok (.aload_n 0, 1) := by decide +kernel
theorem dX11_heard_48 : decode cX11_heard 48 = .ok (.getfield 35, 3) := by decide +kernel
theorem dX11_heard_51 : decode cX11_heard 51 = .ok (.getfield 156, 3) := by decide +kernel
theorem dX11_heard_54 : decode cX11_heard 54 = .ok (.iload_n 2, 1) := by decide +kernel
theorem dX11_heard_55 : decode cX11_heard 55 = .ok (.iaload, 1) := by decide +kernel
theorem dX11_heard_56 : decode cX11_heard 56 = .ok (.iload 4, 2) := by decide +kernel
theorem dX11_heard_58 : decode cX11_heard 58 = .ok (.aload_n 0, 1) := by decide +kernel
theorem dX11_heard_59 : decode cX11_heard 59 = .ok (.getfield 62, 3) := by decide +kernel
theorem dX11_heard_62 : decode cX11_heard 62 = .ok (.invokevirtual 299, 3) := by decide +kernel
theorem dX11_heard_65 : decode cX11_heard 65 = .ok (.lreturn, 1) := by decide +kernel
theorem dX11_sure_0 : decode cX11_sure 0 = .ok (.aload_n 0, 1) := by decide +kernel
theorem dX11_sure_1 : decode cX11_sure 1 = .ok (.iload_n 1, 1) := by decide +kernel
theorem dX11_sure_2 : decode cX11_sure 2 = .ok (.iload_n 2, 1) := by decide +kernel
theorem dX11_sure_3 : decode cX11_sure 3 = .ok (.iload_n 3, 1) := by decide +kernel
theorem dX11_sure_4 : decode cX11_sure 4 = .ok (.invokevirtual 345, 3) := by decide +kernel
theorem dX11_sure_7 : decode cX11_sure 7 = .ok (.istore 6, 2) := by decide +kernel
theorem dX11_sure_9 : decode cX11_sure 9 = .ok (.iload 6, 2) := by decide +kernel
theorem dX11_sure_11 : decode cX11_sure 11 = .ok (.ifCond .eq 6, 3) := by decide +kernel
theorem dX11_sure_14 : decode cX11_sure 14 = .ok (.iload 6, 2) := by decide +kernel
theorem dX11_sure_16 : decode cX11_sure 16 = .ok (.ireturn, 1) := by decide +kernel
theorem dX11_sure_17 : decode cX11_sure 17 = .ok (.iload 4, 2) := by decide +kernel
theorem dX11_sure_19 : decode cX11_sure 19 = .ok (.invokestatic 281, 3) := by decide +kernel
theorem dX11_sure_22 : decode cX11_sure 22 = .ok (.ifCond .ne 13, 3) := by decide +kernel
theorem dX11_sure_25 : decode cX11_sure 25 = .ok (.iload 4, 2) := by decide +kernel
theorem dX11_sure_27 : decode cX11_sure 27 = .ok (.bipush 99, 2) := by decide +kernel
theorem dX11_sure_29 : decode cX11_sure 29 = .ok (.if_icmp .eq 6, 3) := by decide +kernel
theorem dX11_sure_32 : decode cX11_sure 32 = .ok (.ldc 123, 2) := by decide +kernel
theorem dX11_sure_34 : decode cX11_sure 34 = .ok (.ireturn, 1) := by decide +kernel
theorem dX11_sure_35 : decode cX11_sure 35 = .ok (.aload_n 0, 1) := by decide +kernel
theorem dX11_sure_36 : decode cX11_sure 36 = .ok (.getfield 71, 3) := by decide +kernel
theorem dX11_sure_39 : decode cX11_sure 39 = .ok (.iload_n 3, 1) := by decide +kernel
theorem dX11_sure_40 : decode cX11_sure 40 = .ok (.iload 5, 2) := by decide +kernel
theorem dX11_sure_42 : decode cX11_sure 42 = .ok (.invokevirtual 168, 3) := by decide +kernel
theorem dX11_sure_45 : decode cX11_sure 45 = .ok (.ifCond .ne 7, 3) := by decide +kernel
theorem dX11_sure_48 : decode cX11_sure 48 = .ok (.ldc_w 349, 3) := by decide +kernel
theorem dX11_sure_51 : decode cX11_sure 51 = .ok (.ireturn, 1) := by decide +kernel
theorem dX11_sure_52 : decode cX11_sure 52 = .ok (.aload_n 0, 1) := by decide +kernel
theorem dX11_sure_53 : decode cX11_sure 53 = .ok (.iload_n 2, 1) := by decide +kernel
theorem dX11_sure_54 : decode cX11_sure 54 = .ok (.iload_n 3, 1) := by decide +kernel
theorem dX11_sure_55 : decode cX11_sure 55 = .ok (.invokevirtual 186, 3) := by decide +kernel
theorem dX11_sure_58 : decode cX11_sure 58 = .ok (.aload_n 0, 1) := by decide +kernel
theorem dX11_sure_59 : decode cX11_sure 59 = .ok (.getfield 62, 3) := by decide +kernel
theorem dX11_sure_62 : decode cX11_sure 62 = .ok (.iload 5, 2) := by decide +kernel
theorem dX11_sure_64 : decode cX11_sure 64 = .ok (.iaload, 1) := by decide +kernel
theorem dX11_sure_65 : decode cX11_sure 65 = .ok (.istore 7, 2) := by decide +kernel
theorem dX11_sure_67 : decode cX11_sure 67 = .ok (.bipush 9, 2) := by decide +kernel
theorem dX11_sure_69 : decode cX11_sure 69 = .ok (.istore 8, 2) := by decide +kernel
theorem dX11_sure_71 : decode cX11_sure 71 = .ok (.bipush (-2), 2) := by decide +kernel
theorem dX11_sure_73 : decode cX11_sure 73 = .ok (.istore 9, 2) := by decide +kernel
theorem dX11_sure_75 : decode cX11_sure 75 = .ok (.iload 9, 2) := by decide +kernel
theorem dX11_sure_77 : decode cX11_sure 77 = .ok (.iconst 2, 1) := by decide +kernel
theorem dX11_sure_78 : decode cX11_sure 78 = .ok (.if_icmp .gt 65, 3) := by decide +kernel
theorem dX11_sure_81 : decode cX11_sure 81 = .ok (.aload_n 0, 1) := by decide +kernel
theorem dX11_sure_82 : decode cX11_sure 82 = .ok (.getfield 62, 3) := by decide +kernel
theorem dX11_sure_85 : decode cX11_sure 85 = .ok (.iload 5, 2) := by decide +kernel
theorem dX11_sure_87 : decode cX11_sure 87 = .ok (.iload 7, 2) := by decide +kernel
theorem dX11_sure_89 : decode cX11_sure 89 = .ok (.iload 9, 2) := by decide +kernel
theorem dX11_sure_91 : decode cX11_sure 91 = .ok (.invokestatic 342, 3) := by decide +kernel
theorem dX11_sure_94 : decode cX11_sure 94 = .ok (.iand, 1) := by decide +kernel
theorem dX11_sure_95 : decode cX11_sure 95 = .ok (.iastore, 1) := by decide +kernel
theorem dX11_sure_96 : decode cX11_sure 96 = .ok (.aload_n 0, 1) := by decide +kernel
theorem dX11_sure_97 : decode cX11_sure 97 = .ok (.getfield 96, 3) := by decide +kernel
theorem dX11_sure_100 : decode cX11_sure 100 = .ok (.aload_n 0, 1) := by decide +kernel
theorem dX11_sure_101 : decode cX11_sure 101 = .ok (.getfield 35, 3) := by decide +kernel
theorem dX11_sure_104 : decode cX11_sure 104 = .ok (.getfield 156, 3) := by decide +kernel
theorem dX11_sure_107 : decode cX11_sure 107 = .ok (.iload_n 2, 1) := by decide +kernel
theorem dX11_sure_108 : decode cX11_sure 108 = .ok (.iaload, 1) := by decide +kernel
theorem dX11_sure_109 : decode cX11_sure 109 = .ok (.iload 4, 2) := by decide +kernel
theorem dX11_sure_111 : decode cX11_sure 111 = .ok (.aload_n 0, 1) := by decide +kernel
theorem dX11_sure_112 : decode cX11_sure 112 = .ok (.getfield 62, 3) := by decide +kernel
theorem dX11_sure_115 : decode cX11_sure 115 = .ok (.invokevirtual 299, 3) := by decide +kernel
theorem dX11_sure_118 : decode cX11_sure 118 = .ok (.lconst 0, 1) := by decide +kernel
theorem dX11_sure_119 : decode cX11_sure 119 = .ok (.lcmp, 1) := by decide +kernel
theorem dX11_sure_120 : decode cX11_sure 120 = .ok (.ifCond .le 17, 3) := by decide +kernel
theorem dX11_sure_123 : decode cX11_sure 123 = .ok (.iload 8, 2) := by decide +kernel
theorem dX11_sure_125 : decode cX11_sure 125 = .ok (.bipush 9, 2) := by decide +kernel
theorem dX11_sure_127 : decode cX11_sure 127 = .ok (.if_icmp .eq 6, 3) := by decide +kernel
theorem dX11_sure_130 : decode cX11_sure 130 = .ok (.bipush 9, 2) := by decide +kernel
theorem dX11_sure_132 : decode cX11_sure 132 = .ok (.ireturn, 1) := by decide +kernel
theorem dX11_sure_133 : decode cX11_sure 133 = .ok (.iload 9, 2) := by decide +kernel
theorem dX11_sure_135 : decode cX11_sure 135 = .ok (.istore 8, 2) := by decide +kernel
theorem dX11_sure_137 : decode cX11_sure 137 = .ok (.iinc 9 1, 3) := by decide +kernel
theorem dX11_sure_140 : decode cX11_sure 140 = .ok (.goto (-65), 3) := by decide +kernel
theorem dX11_sure_143 : decode cX11_sure 143 = .ok (.iload 8, 2) := by decide +kernel
theorem dX11_sure_145 : decode cX11_sure 145 = .ok (.ireturn, 1) := by decide +kernel
theorem dX11_tempers_0 : decode cX11_tempers 0 = .ok (.aload_n 0, 1) := by decide +kernel
theorem dX11_tempers_1 : decode cX11_tempers 1 = .ok (.iload_n 1, 1) := by decide +kernel
theorem dX11_tempers_2 : decode cX11_tempers 2 = .ok (.iload_n 2, 1) := by decide +kernel
theorem dX11_tempers_3 : decode cX11_tempers 3 = .ok (.iload_n 3, 1) := by decide +kernel
theorem dX11_tempers_4 : decode cX11_tempers 4 = .ok (.invokevirtual 345, 3) := by decide +kernel
theorem dX11_tempers_7 : decode cX11_tempers 7 = .ok (.istore 4, 2) := by decide +kernel
theorem dX11_tempers_9 : decode cX11_tempers 9 = .ok (.iload 4, 2) := by decide +kernel
theorem dX11_tempers_11 : decode cX11_tempers 11 = .ok (.ifCond .eq 8, 3) := by decide +kernel
theorem dX11_tempers_14 : decode cX11_tempers 14 = .ok (.iload 4, 2) := by decide +kernel
theorem dX11_tempers_16 : decode cX11_tempers 16 = .ok (.goto 9, 3) := by decide +kernel
theorem dX11_tempers_19 : decode cX11_tempers 19 = .ok (.aload_n 0, 1) := by decide +kernel
theorem dX11_tempers_20 : decode cX11_tempers 20 = .ok (.iload_n 2, 1) := by decide +kernel
theorem dX11_tempers_21 : decode cX11_tempers 21 = .ok (.iload_n 3, 1) := by decide +kernel
theorem dX11_tempers_22 : decode cX11_tempers 22 = .ok (.invokevirtual 350, 3) := by decide +kernel
theorem dX11_tempers_25 : decode cX11_tempers 25 = .ok (.ireturn, 1) := by decide +kernel
theorem dX11_next_0 : decode cX11_next 0 = .ok (.aload_n 0, 1) := by decide +kernel
theorem dX11_next_1 : decode cX11_next 1 = .ok (.iload_n 1, 1) := by decide +kernel
theorem dX11_next_2 : decode cX11_next 2 = .ok (.iload_n 2, 1) := by decide +kernel
theorem dX11_next_3 : decode cX11_next 3 = .ok (.iload_n 3, 1) := by decide +kernel
theorem dX11_next_4 : decode cX11_next 4 = .ok (.invokevirtual 345, 3) := by decide +kernel
theorem dX11_next_7 : decode cX11_next 7 = .ok (.istore 4, 2) := by decide +kernel
theorem dX11_next_9 : decode cX11_next 9 = .ok (.iload 4, 2) := by decide +kernel
theorem dX11_next_11 : decode cX11_next 11 = .ok (.ifCond .eq 6, 3) := by decide +kernel
theorem dX11_next_14 : decode cX11_next 14 = .ok (.iload 4, 2) := by decide +kernel
theorem dX11_next_16 : decode cX11_next 16 = .ok (.ireturn, 1) := by decide +kernel
theorem dX11_next_17 : decode cX11_next 17 = .ok (.aload_n 0, 1) := by decide +kernel
theorem dX11_next_18 : decode cX11_next 18 = .ok (.iload_n 2, 1) := by decide +kernel
theorem dX11_next_19 : decode cX11_next 19 = .ok (.iload_n 3, 1) := by decide +kernel
theorem dX11_next_20 : decode cX11_next 20 = .ok (.invokevirtual 350, 3) := by decide +kernel
theorem dX11_next_23 : decode cX11_next 23 = .ok (.istore 5, 2) := by decide +kernel
theorem dX11_next_25 : decode cX11_next 25 = .ok (.iload 5, 2) := by decide +kernel
theorem dX11_next_27 : decode cX11_next 27 = .ok (.ifCond .ne 5, 3) := by decide +kernel
theorem dX11_next_30 : decode cX11_next 30 = .ok (.iconst (-1), 1) := by decide +kernel
theorem dX11_next_31 : decode cX11_next 31 = .ok (.ireturn, 1) := by decide +kernel
theorem dX11_next_32 : decode cX11_next 32 = .ok (.iconst (-1), 1) := by decide +kernel
theorem dX11_next_33 : decode cX11_next 33 = .ok (.istore 6, 2) := by decide +kernel
theorem dX11_next_35 : decode cX11_next 35 = .ok (.bipush 11, 2) := by decide +kernel
theorem dX11_next_37 : decode cX11_next 37 = .ok (.istore 7, 2) := by decide +kernel
theorem dX11_next_39 : decode cX11_next 39 = .ok (.iconst 0, 1) := by decide +kernel
theorem dX11_next_40 : decode cX11_next 40 = .ok (.istore 8, 2) := by decide +kernel
theorem dX11_next_42 : decode cX11_next 42 = .ok (.iload 8, 2) := by decide +kernel
theorem dX11_next_44 : decode cX11_next 44 = .ok (.aload_n 0, 1) := by decide +kernel
theorem dX11_next_45 : decode cX11_next 45 = .ok (.getfield 71, 3) := by decide +kernel
theorem dX11_next_48 : decode cX11_next 48 = .ok (.getfield 320, 3) := by decide +kernel
theorem dX11_next_51 : decode cX11_next 51 = .ok (.if_icmp .ge 46, 3) := by decide +kernel
theorem dX11_next_54 : decode cX11_next 54 = .ok (.iload 8, 2) := by decide +kernel
theorem dX11_next_56 : decode cX11_next 56 = .ok (.iload_n 3, 1) := by decide +kernel
theorem dX11_next_57 : decode cX11_next 57 = .ok (.if_icmp .ne 8, 3) := by decide +kernel
theorem dX11_next_60 : decode cX11_next 60 = .ok (.iload 7, 2) := by decide +kernel
theorem dX11_next_62 : decode cX11_next 62 = .ok (.goto 12, 3) := by decide +kernel
theorem dX11_next_65 : decode cX11_next 65 = .ok (.aload_n 0, 1) := by decide +kernel
theorem dX11_next_66 : decode cX11_next 66 = .ok (.iload_n 2, 1) := by decide +kernel
theorem dX11_next_67 : decode cX11_next 67 = .ok (.iload 8, 2) := by decide +kernel
theorem dX11_next_69 : decode cX11_next 69 = .ok (.iload 5, 2) := by decide +kernel
theorem dX11_next_71 : decode cX11_next 71 = .ok (.invokevirtual 353, 3) := by decide +kernel
theorem dX11_next_74 : decode cX11_next 74 = .ok (.istore 9, 2) := by decide +kernel
theorem dX11_next_76 : decode cX11_next 76 = .ok (.iload 9, 2) := by decide +kernel
theorem dX11_next_78 : decode cX11_next 78 = .ok (.iload 7, 2) := by decide +kernel
theorem dX11_next_80 : decode cX11_next 80 = .ok (.if_icmp .ge 11, 3) := by decide +kernel
theorem dX11_next_83 : decode cX11_next 83 = .ok (.iload 9, 2) := by decide +kernel
theorem dX11_next_85 : decode cX11_next 85 = .ok (.istore 7, 2) := by decide +kernel
theorem dX11_next_87 : decode cX11_next 87 = .ok (.iload 8, 2) := by decide +kernel
theorem dX11_next_89 : decode cX11_next 89 = .ok (.istore 6, 2) := by decide +kernel
theorem dX11_next_91 : decode cX11_next 91 = .ok (.iinc 8 1, 3) := by decide +kernel
theorem dX11_next_94 : decode cX11_next 94 = .ok (.goto (-52), 3) := by decide +kernel
theorem dX11_next_97 : decode cX11_next 97 = .ok (.iload 6, 2) := by decide +kernel
theorem dX11_next_99 : decode cX11_next 99 = .ok (.ireturn, 1) := by decide +kernel
theorem dX11_chance_0 : decode cX11_chance 0 = .ok (.aload_n 0, 1) := by decide +kernel
theorem dX11_chance_1 : decode cX11_chance 1 = .ok (.iload_n 1, 1) := by decide +kernel
theorem dX11_chance_2 : decode cX11_chance 2 = .ok (.iload_n 2, 1) := by decide +kernel
theorem dX11_chance_3 : decode cX11_chance 3 = .ok (.invokevirtual 262, 3) := by decide +kernel
theorem dX11_chance_6 : decode cX11_chance 6 = .ok (.ifCond .eq 14, 3) := by decide +kernel
theorem dX11_chance_9 : decode cX11_chance 9 = .ok (.iload 4, 2) := by decide +kernel
theorem dX11_chance_11 : decode cX11_chance 11 = .ok (.ifCond .lt 9, 3) := by decide +kernel
theorem dX11_chance_14 : decode cX11_chance 14 = .ok (.iload 4, 2) := by decide +kernel
theorem dX11_chance_16 : decode cX11_chance 16 = .ok (.iconst 1, 1) := by decide +kernel
theorem dX11_chance_17 : decode cX11_chance 17 = .ok (.if_icmp .le 7, 3) := by decide +kernel
theorem dX11_chance_20 : decode cX11_chance 20 = .ok (.ldc2_w 295, 3) := by decide +kernel
theorem dX11_chance_23 : decode cX11_chance 23 = .ok (.lreturn, 1) := by decide +kernel
theorem dX11_chance_24 : decode cX11_chance 24 = .ok (.iload_n 3, 1) := by decide +kernel
theorem dX11_chance_25 : decode cX11_chance 25 = .ok (.invokestatic 281, 3) := by decide +kernel
theorem dX11_chance_28 : decode cX11_chance 28 = .ok (.ifCond .ne 7, 3) := by decide +kernel
theorem dX11_chance_31 : decode cX11_chance 31 = .ok (.ldc2_w 297, 3) := by decide +kernel
theorem dX11_chance_34 : decode cX11_chance 34 = .ok (.lreturn, 1) := by decide +kernel
theorem dX11_chance_35 : decode cX11_chance 35 = .ok (.aload_n 0, 1) := by decide +kernel
theorem dX11_chance_36 : decode cX11_chance 36 = .ok (.iload_n 1, 1) := by decide +kernel
theorem dX11_chance_37 : decode cX11_chance 37 = .ok (.iload_n 2, 1) := by decide +kernel
theorem dX11_chance_38 : decode cX11_chance 38 = .ok (.invokevirtual 186, 3) := by decide +kernel
theorem dX11_chance_41 : decode cX11_chance 41 = .ok (.aload_n 0, 1) := by decide +kernel
theorem dX11_chance_42 : decode cX11_chance 42 = .ok (.getfield 89, 3) := by decide +kernel
theorem dX11_chance_45 : decode cX11_chance 45 = .ok (.aload_n 0, 1) := by decide +kernel
theorem dX11_chance_46 : decode cX11_chance 46 = .ok (.getfield 35, 3) := by decide +kernel
theorem dX11_chance_49 : decode cX11_chance 49 = .ok (.getfield 156, 3) := by decide +kernel
theorem dX11_chance_52 : decode cX11_chance 52 = .ok (.iload_n 1, 1) := by decide +kernel
theorem dX11_chance_53 : decode cX11_chance 53 = .ok (.iaload, 1) := by decide +kernel
theorem dX11_chance_54 : decode cX11_chance 54 = .ok (.iload_n 3, 1) := by decide +kernel
theorem dX11_chance_55 : decode cX11_chance 55 = .ok (.invokevirtual 356, 3) := by decide +kernel
theorem dX11_chance_58 : decode cX11_chance 58 = .ok (.lstore 5, 2) := by decide +kernel
theorem dX11_chance_60 : decode cX11_chance 60 = .ok (.aload_n 0, 1) := by decide +kernel
theorem dX11_chance_61 : decode cX11_chance 61 = .ok (.getfield 89, 3) := by decide +kernel
theorem dX11_chance_64 : decode cX11_chance 64 = .ok (.invokevirtual 360, 3) := by decide +kernel
theorem dX11_chance_67 : decode cX11_chance 67 = .ok (.lstore 7, 2) := by decide +kernel
theorem dX11_chance_69 : decode cX11_chance 69 = .ok (.lload 5, 2) := by decide +kernel
theorem dX11_chance_71 : decode cX11_chance 71 = .ok (.lload 7, 2) := by decide +kernel
theorem dX11_chance_73 : decode cX11_chance 73 = .ok (.invokestatic 364, 3) := by decide +kernel
theorem dX11_chance_76 : decode cX11_chance 76 = .ok (.lstore 9, 2) := by decide +kernel
theorem dX11_chance_78 : decode cX11_chance 78 = .ok (.lload 9, 2) := by decide +kernel
theorem dX11_chance_80 : decode cX11_chance 80 = .ok (.lconst 0, 1) := by decide +kernel
theorem dX11_chance_81 : decode cX11_chance 81 = .ok (.lcmp, 1) := by decide +kernel
theorem dX11_chance_82 : decode cX11_chance 82 = .ok (.ifCond .ne 5, 3) := by decide +kernel
theorem dX11_chance_85 : decode cX11_chance 85 = .ok (.lconst 0, 1) := by decide +kernel
theorem dX11_chance_86 : decode cX11_chance 86 = .ok (.lreturn, 1) := by decide +kernel
theorem dX11_chance_87 : decode cX11_chance 87 = .ok (.iload 4, 2) := by decide +kernel
theorem dX11_chance_89 : decode cX11_chance 89 = .ok (.ifCond .ne 8, 3) := by decide +kernel
theorem dX11_chance_92 : decode cX11_chance 92 = .ok (.lload 5, 2) := by decide +kernel
theorem dX11_chance_94 : decode cX11_chance 94 = .ok (.goto 5, 3) := by decide +kernel
theorem dX11_chance_97 : decode cX11_chance 97 = .ok (.lload 7, 2) := by decide +kernel
theorem dX11_chance_99 : decode cX11_chance 99 = .ok (.lload 9, 2) := by decide +kernel
theorem dX11_chance_101 : decode cX11_chance 101 = .ok (.ldiv, 1) := by decide +kernel
theorem dX11_chance_102 : decode cX11_chance 102 = .ok (.lreturn, 1) := by decide +kernel
theorem dX11_putBy_0 : decode cX11_putBy 0 = .ok (.aload_n 0, 1) := by decide +kernel
theorem dX11_putBy_1 : decode cX11_putBy 1 = .ok (.iload_n 1, 1) := by decide +kernel
theorem dX11_putBy_2 : decode cX11_putBy 2 = .ok (.iload_n 2, 1) := by decide +kernel
theorem dX11_putBy_3 : decode cX11_putBy 3 = .ok (.invokevirtual 262, 3) := by decide +kernel
theorem dX11_putBy_6 : decode cX11_putBy 6 = .ok (.ifCond .ne 6, 3) := by decide +kernel
theorem dX11_putBy_9 : decode cX11_putBy 9 = .ok (.ldc 155, 2) := by decide +kernel
theorem dX11_putBy_11 : decode cX11_putBy 11 = .ok (.ireturn, 1) := by decide +kernel
theorem dX11_putBy_12 : decode cX11_putBy 12 = .ok (.iload_n 3, 1) := by decide +kernel
theorem dX11_putBy_13 : decode cX11_putBy 13 = .ok (.ifCond .lt 9, 3) := by decide +kernel
theorem dX11_putBy_16 : decode cX11_putBy 16 = .ok (.iload_n 3, 1) := by decide +kernel
theorem dX11_putBy_17 : decode cX11_putBy 17 = .ok (.bipush 100, 2) := by decide +kernel
theorem dX11_putBy_19 : decode cX11_putBy 19 = .ok (.if_icmp .le 6, 3) := by decide +kernel
theorem dX11_putBy_22 : decode cX11_putBy 22 = .ok (.ldc 123, 2) := by decide +kernel
theorem dX11_putBy_24 : decode cX11_putBy 24 = .ok (.ireturn, 1) := by decide +kernel
theorem dX11_putBy_25 : decode cX11_putBy 25 = .ok (.aload_n 0, 1) := by decide +kernel
theorem dX11_putBy_26 : decode cX11_putBy 26 = .ok (.iload_n 1, 1) := by decide +kernel
theorem dX11_putBy_27 : decode cX11_putBy 27 = .ok (.iload_n 2, 1) := by decide +kernel
theorem dX11_putBy_28 : decode cX11_putBy 28 = .ok (.invokevirtual 186, 3) := by decide +kernel
theorem dX11_putBy_31 : decode cX11_putBy 31 = .ok (.iload_n 3, 1) := by decide +kernel
theorem dX11_putBy_32 : decode cX11_putBy 32 = .ok (.i2l, 1) := by decide +kernel
theorem dX11_putBy_33 : decode cX11_putBy 33 = .ok (.aload_n 0, 1) := by decide +kernel
theorem dX11_putBy_34 : decode cX11_putBy 34 = .ok (.getfield 89, 3) := by decide +kernel
theorem dX11_putBy_37 : decode cX11_putBy 37 = .ok (.invokevirtual 360, 3) := by decide +kernel
theorem dX11_putBy_40 : decode cX11_putBy 40 = .ok (.lmul, 1) := by decide +kernel
theorem dX11_putBy_41 : decode cX11_putBy 41 = .ok (.lstore 4, 2) := by decide +kernel
theorem dX11_putBy_43 : decode cX11_putBy 43 = .ok (.bipush (-20), 2) := by decide +kernel
theorem dX11_putBy_45 : decode cX11_putBy 45 = .ok (.istore 6, 2) := by decide +kernel
theorem dX11_putBy_47 : decode cX11_putBy 47 = .ok (.iload 6, 2) := by decide +kernel
theorem dX11_putBy_49 : decode cX11_putBy 49 = .ok (.bipush 20, 2) := by decide +kernel
theorem dX11_putBy_51 : decode cX11_putBy 51 = .ok (.if_icmp .gt 32, 3) := by decide +kernel
theorem dX11_putBy_54 : decode cX11_putBy 54 = .ok (.ldc2_w 368, 3) := by decide +kernel
theorem dX11_putBy_57 : decode cX11_putBy 57 = .ok (.aload_n 0, 1) := by decide +kernel
theorem dX11_putBy_58 : decode cX11_putBy 58 = .ok (.getfield 89, 3) := by decide +kernel
theorem dX11_putBy_61 : decode cX11_putBy 61 = .ok (.iload 6, 2) := by decide +kernel
theorem dX11_putBy_63 : decode cX11_putBy 63 = .ok (.iconst 0, 1) := by decide +kernel
theorem dX11_putBy_64 : decode cX11_putBy 64 = .ok (.invokevirtual 356, 3) := by decide +kernel
theorem dX11_putBy_67 : decode cX11_putBy 67 = .ok (.lmul, 1) := by decide +kernel
theorem dX11_putBy_68 : decode cX11_putBy 68 = .ok (.lload 4, 2) := by decide +kernel
theorem dX11_putBy_70 : decode cX11_putBy 70 = .ok (.lcmp, 1) := by decide +kernel
theorem dX11_putBy_71 : decode cX11_putBy 71 = .ok (.ifCond .lt 6, 3) := by decide +kernel
theorem dX11_putBy_74 : decode cX11_putBy 74 = .ok (.iload 6, 2) := by decide +kernel
theorem dX11_putBy_76 : decode cX11_putBy 76 = .ok (.ireturn, 1) := by decide +kernel
theorem dX11_putBy_77 : decode cX11_putBy 77 = .ok (.iinc 6 1, 3) := by decide +kernel
theorem dX11_putBy_80 : decode cX11_putBy 80 = .ok (.goto (-33), 3) := by decide +kernel
theorem dX11_putBy_83 : decode cX11_putBy 83 = .ok (.ldc_w 294, 3) := by decide +kernel
theorem dX11_putBy_86 : decode cX11_putBy 86 = .ok (.ireturn, 1) := by decide +kernel
theorem dX11_numbers_0 : decode cX11_numbers 0 = .ok (.iload_n 1, 1) := by decide +kernel
theorem dX11_numbers_1 : decode cX11_numbers 1 = .ok (.invokestatic 232, 3) := by decide +kernel
theorem dX11_numbers_4 : decode cX11_numbers 4 = .ok (.ifCond .eq 12, 3) := by decide +kernel
theorem dX11_numbers_7 : decode cX11_numbers 7 = .ok (.iload_n 2, 1) := by decide +kernel
theorem dX11_numbers_8 : decode cX11_numbers 8 = .ok (.ifCond .lt 8, 3) := by decide +kernel
theorem dX11_numbers_11 : decode cX11_numbers 11 = .ok (.iload_n 2, 1) := by decide +kernel
theorem dX11_numbers_12 : decode cX11_numbers 12 = .ok (.iconst 4, 1) := by decide +kernel
theorem dX11_numbers_13 : decode cX11_numbers 13 = .ok (.if_icmp .lt 6, 3) := by decide +kernel
theorem dX11_numbers_16 : decode cX11_numbers 16 = .ok (.ldc 155, 2) := by decide +kernel
theorem dX11_numbers_18 : decode cX11_numbers 18 = .ok (.ireturn, 1) := by decide +kernel
theorem dX11_numbers_19 : decode cX11_numbers 19 = .ok (.iload_n 3, 1) := by decide +kernel
theorem dX11_numbers_20 : decode cX11_numbers 20 = .ok (.ifCond .lt 9, 3) := by decide +kernel
theorem dX11_numbers_23 : decode cX11_numbers 23 = .ok (.iload_n 3, 1) := by decide +kernel
theorem dX11_numbers_24 : decode cX11_numbers 24 = .ok (.bipush 40, 2) := by decide +kernel
theorem dX11_numbers_26 : decode cX11_numbers 26 = .ok (.if_icmp .le 6, 3) := by decide +kernel
theorem dX11_numbers_29 : decode cX11_numbers 29 = .ok (.ldc 123, 2) := by decide +kernel
theorem dX11_numbers_31 : decode cX11_numbers 31 = .ok (.ireturn, 1) := by decide +kernel
theorem dX11_numbers_32 : decode cX11_numbers 32 = .ok (.aload_n 0, 1) := by decide +kernel
theorem dX11_numbers_33 : decode cX11_numbers 33 = .ok (.getfield 58, 3) := by decide +kernel
theorem dX11_numbers_36 : decode cX11_numbers 36 = .ok (.iload_n 1, 1) := by decide +kernel
theorem dX11_numbers_37 : decode cX11_numbers 37 = .ok (.aaload, 1) := by decide +kernel
theorem dX11_numbers_38 : decode cX11_numbers 38 = .ok (.iload_n 2, 1) := by decide +kernel
theorem dX11_numbers_39 : decode cX11_numbers 39 = .ok (.iload_n 3, 1) := by decide +kernel
theorem dX11_numbers_40 : decode cX11_numbers 40 = .ok (.invokevirtual 370, 3) := by decide +kernel
theorem dX11_numbers_43 : decode cX11_numbers 43 = .ok (.iconst 0, 1) := by decide +kernel
theorem dX11_numbers_44 : decode cX11_numbers 44 = .ok (.ireturn, 1) := by decide +kernel
theorem dX11_write_0 : decode cX11_write 0 = .ok (.iload_n 1, 1) := by decide +kernel
theorem dX11_write_1 : decode cX11_write 1 = .ok (.invokestatic 232, 3) := by decide +kernel
theorem dX11_write_4 : decode cX11_write 4 = .ok (.ifCond .ne 7, 3) := by decide +kernel
theorem dX11_write_7 : decode cX11_write 7 = .ok (.ldc2_w 295, 3) := by decide +kernel
theorem dX11_write_10 : decode cX11_write 10 = .ok (.lreturn, 1) := by decide +kernel
theorem dX11_write_11 : decode cX11_write 11 = .ok (.aload_n 0, 1) := by decide +kernel
theorem dX11_write_12 : decode cX11_write 12 = .ok (.getfield 58, 3) := by decide +kernel
theorem dX11_write_15 : decode cX11_write 15 = .ok (.iload_n 1, 1) := by decide +kernel
theorem dX11_write_16 : decode cX11_write 16 = .ok (.aaload, 1) := by decide +kernel
theorem dX11_write_17 : decode cX11_write 17 = .ok (.astore 5, 2) := by decide +kernel
theorem dX11_write_19 : decode cX11_write 19 = .ok (.aload 5, 2) := by decide +kernel
theorem dX11_write_21 : decode cX11_write 21 = .ok (.invokevirtual 235, 3) := by decide +kernel
theorem dX11_write_24 : decode cX11_write 24 = .ok (.ifCond .eq 7, 3) := by decide +kernel
theorem dX11_write_27 : decode cX11_write 27 = .ok (.ldc2_w 372, 3) := by decide +kernel
theorem dX11_write_30 : decode cX11_write 30 = .ok (.lreturn, 1) := by decide +kernel
theorem dX11_write_31 : decode cX11_write 31 = .ok (.iload_n 2, 1) := by decide +kernel
theorem dX11_write_32 : decode cX11_write 32 = .ok (.ifCond .lt 12, 3) := by decide +kernel
theorem dX11_write_35 : decode cX11_write 35 = .ok (.iload_n 2, 1) := by decide +kernel
theorem dX11_write_36 : decode cX11_write 36 = .ok (.aload 5, 2) := by decide +kernel
theorem dX11_write_38 : decode cX11_write 38 = .ok (.getfield 240, 3) := by decide +kernel
theorem dX11_write_41 : decode cX11_write 41 = .ok (.if_icmp .lt 7, 3) := by decide +kernel
theorem dX11_write_44 : decode cX11_write 44 = .ok (.ldc2_w 374, 3) := by decide +kernel
theorem dX11_write_47 : decode cX11_write 47 = .ok (.lreturn, 1) := by decide +kernel
theorem dX11_write_48 : decode cX11_write 48 = .ok (.aload 5, 2) := by decide +kernel
theorem dX11_write_50 : decode cX11_write 50 = .ok (.iload_n 2, 1) := by decide +kernel
theorem dX11_write_51 : decode cX11_write 51 = .ok (.lload_n 3, 1) := by decide +kernel
theorem dX11_write_52 : decode cX11_write 52 = .ok (.invokevirtual 376, 3) := by decide +kernel
theorem dX11_write_55 : decode cX11_write 55 = .ok (.aload 5, 2) := by decide +kernel
theorem dX11_write_57 : decode cX11_write 57 = .ok (.iload_n 2, 1) := by decide +kernel
theorem dX11_write_58 : decode cX11_write 58 = .ok (.invokevirtual 241, 3) := by decide +kernel
theorem dX11_write_61 : decode cX11_write 61 = .ok (.lreturn, 1) := by decide +kernel
theorem dX11_lists_0 : decode cX11_lists 0 = .ok (.iload_n 1, 1) := by decide +kernel
theorem dX11_lists_1 : decode cX11_lists 1 = .ok (.invokestatic 232, 3) := by decide +kernel
theorem dX11_lists_4 : decode cX11_lists 4 = .ok (.ifCond .eq 12, 3) := by decide +kernel
theorem dX11_lists_7 : decode cX11_lists 7 = .ok (.aload_n 0, 1) := by decide +kernel
theorem dX11_lists_8 : decode cX11_lists 8 = .ok (.iload_n 2, 1) := by decide +kernel
theorem dX11_lists_9 : decode cX11_lists 9 = .ok (.iload_n 3, 1) := by decide +kernel
theorem dX11_lists_10 : decode cX11_lists 10 = .ok (.invokevirtual 262, 3) := by decide +kernel
theorem dX11_lists_13 : decode cX11_lists 13 = .ok (.ifCond .ne 6, 3) := by decide +kernel
theorem dX11_lists_16 : decode cX11_lists 16 = .ok (.ldc 155, 2) := by decide +kernel
theorem dX11_lists_18 : decode cX11_lists 18 = .ok (.ireturn, 1) := by decide +kernel
theorem dX11_lists_19 : decode cX11_lists 19 = .ok (.aload_n 0, 1) := by decide +kernel
theorem dX11_lists_20 : decode cX11_lists 20 = .ok (.getfield 58, 3) := by decide +kernel
theorem dX11_lists_23 : decode cX11_lists 23 = .ok (.iload_n 1, 1) := by decide +kernel
theorem dX11_lists_24 : decode cX11_lists 24 = .ok (.aaload, 1) := by decide +kernel
theorem dX11_lists_25 : decode cX11_lists 25 = .ok (.astore 5, 2) := by decide +kernel
theorem dX11_lists_27 : decode cX11_lists 27 = .ok (.aload 5, 2) := by decide +kernel
theorem dX11_lists_29 : decode cX11_lists 29 = .ok (.invokevirtual 235, 3) := by decide +kernel
theorem dX11_lists_32 : decode cX11_lists 32 = .ok (.ifCond .eq 6, 3) := by decide +kernel
theorem dX11_lists_35 : decode cX11_lists 35 = .ok (.ldc 239, 2) := by decide +kernel
theorem dX11_lists_37 : decode cX11_lists 37 = .ok (.ireturn, 1) := by decide +kernel
theorem dX11_lists_38 : decode cX11_lists 38 = .ok (.iload 4, 2) := by decide +kernel
theorem dX11_lists_40 : decode cX11_lists 40 = .ok (.invokestatic 281, 3) := by decide +kernel
theorem dX11_lists_43 : decode cX11_lists 43 = .ok (.ifCond .ne 6, 3) := by decide +kernel
theorem dX11_lists_46 : decode cX11_lists 46 = .ok (.ldc 123, 2) := by decide +kernel
theorem dX11_lists_48 : decode cX11_lists 48 = .ok (.ireturn, 1) := by decide +kernel
theorem dX11_lists_49 : decode cX11_lists 49 = .ok (.aload_n 0, 1) := by decide +kernel
theorem dX11_lists_50 : decode cX11_lists 50 = .ok (.iload_n 2, 1) := by decide +kernel
theorem dX11_lists_51 : decode cX11_lists 51 = .ok (.iload_n 3, 1) := by decide +kernel
theorem dX11_lists_52 : decode cX11_lists 52 = .ok (.iload 4, 2) := by decide +kernel
theorem dX11_lists_54 : decode cX11_lists 54 = .ok (.aload_n 0, 1) := by decide +kernel
theorem dX11_lists_55 : decode cX11_lists 55 = .ok (.getfield 96, 3) := by decide +kernel
theorem dX11_lists_58 : decode cX11_lists 58 = .ok (.getfield 284, 3) := by decide +kernel
theorem dX11_lists_61 : decode cX11_lists 61 = .ok (.invokevirtual 287, 3) := by decide +kernel
theorem dX11_lists_64 : decode cX11_lists 64 = .ok (.ifCond .ne 6, 3) := by decide +kernel
theorem dX11_lists_67 : decode cX11_lists 67 = .ok (.ldc 118, 2) := by decide +kernel
theorem dX11_lists_69 : decode cX11_lists 69 = .ok (.ireturn, 1) := by decide +kernel
theorem dX11_lists_70 : decode cX11_lists 70 = .ok (.aload_n 0, 1) := by decide +kernel
theorem dX11_lists_71 : decode cX11_lists 71 = .ok (.getfield 71, 3) := by decide +kernel
theorem dX11_lists_74 : decode cX11_lists 74 = .ok (.iload_n 3, 1) := by decide +kernel
theorem dX11_lists_75 : decode cX11_lists 75 = .ok (.invokevirtual 179, 3) := by decide +kernel
theorem dX11_lists_78 : decode cX11_lists 78 = .ok (.aload 5, 2) := by decide +kernel
theorem dX11_lists_80 : decode cX11_lists 80 = .ok (.getfield 240, 3) := by decide +kernel
theorem dX11_lists_83 : decode cX11_lists 83 = .ok (.invokestatic 380, 3) := by decide +kernel
theorem dX11_lists_86 : decode cX11_lists 86 = .ok (.istore 6, 2) := by decide +kernel
theorem dX11_lists_88 : decode cX11_lists 88 = .ok (.iconst 0, 1) := by decide +kernel
theorem dX11_lists_89 : decode cX11_lists 89 = .ok (.istore 7, 2) := by decide +kernel
theorem dX11_lists_91 : decode cX11_lists 91 = .ok (.iload 7, 2) := by decide +kernel
theorem dX11_lists_93 : decode cX11_lists 93 = .ok (.iload 6, 2) := by decide +kernel
theorem dX11_lists_95 : decode cX11_lists 95 = .ok (.if_icmp .ge 27, 3) := by decide +kernel
theorem dX11_lists_98 : decode cX11_lists 98 = .ok (.aload 5, 2) := by decide +kernel
theorem dX11_lists_100 : decode cX11_lists 100 = .ok (.iload 7, 2) := by decide +kernel
theorem dX11_lists_102 : decode cX11_lists 102 = .ok (.aload_n 0, 1) := by decide +kernel
theorem dX11_lists_103 : decode cX11_lists 103 = .ok (.getfield 96, 3) := by decide +kernel
theorem dX11_lists_106 : decode cX11_lists 106 = .ok (.getfield 339, 3) := by decide +kernel
theorem dX11_lists_109 : decode cX11_lists 109 = .ok (.iload 7, 2) := by decide +kernel
theorem dX11_lists_111 : decode cX11_lists 111 = .ok (.iaload, 1) := by decide +kernel
theorem dX11_lists_112 : decode cX11_lists 112 = .ok (.i2l, 1) := by decide +kernel
theorem dX11_lists_113 : decode cX11_lists 113 = .ok (.invokevirtual 376, 3) := by decide +kernel
theorem dX11_lists_116 : decode cX11_lists 116 = .ok (.iinc 7 1, 3) := by decide +kernel
theorem dX11_lists_119 : decode cX11_lists 119 = .ok (.goto (-28), 3) := by decide +kernel
theorem dX11_lists_122 : decode cX11_lists 122 = .ok (.iload 6, 2) := by decide +kernel
theorem dX11_lists_124 : decode cX11_lists 124 = .ok (.ireturn, 1) := by decide +kernel
theorem dX11_image_0 : decode cX11_image 0 = .ok (.iload_n 1, 1) := by decide +kernel
theorem dX11_image_1 : decode cX11_image 1 = .ok (.ifCond .lt 8, 3) := by decide +kernel
theorem dX11_image_4 : decode cX11_image 4 = .ok (.iload_n 1, 1) := by decide +kernel
theorem dX11_image_5 : decode cX11_image 5 = .ok (.iconst 2, 1) := by decide +kernel
theorem dX11_image_6 : decode cX11_image 6 = .ok (.if_icmp .lt 6, 3) := by decide +kernel
theorem dX11_image_9 : decode cX11_image 9 = .ok (.ldc 155, 2) := by decide +kernel
theorem dX11_image_11 : decode cX11_image 11 = .ok (.ireturn, 1) := by decide +kernel
theorem dX11_image_12 : decode cX11_image 12 = .ok (.aload_n 0, 1) := by decide +kernel
theorem dX11_image_13 : decode cX11_image 13 = .ok (.getfield 49, 3) := by decide +kernel
theorem dX11_image_16 : decode cX11_image 16 = .ok (.iload_n 1, 1) := by decide +kernel
theorem dX11_image_17 : decode cX11_image 17 = .ok (.aload_n 0, 1) := by decide +kernel
theorem dX11_image_18 : decode cX11_image 18 = .ok (.getfield 71, 3) := by decide +kernel
theorem dX11_image_21 : decode cX11_image 21 = .ok (.aastore, 1) := by decide +kernel
theorem dX11_image_22 : decode cX11_image 22 = .ok (.aload_n 0, 1) := by decide +kernel
theorem dX11_image_23 : decode cX11_image 23 = .ok (.getfield 52, 3) := by decide +kernel
theorem dX11_image_26 : decode cX11_image 26 = .ok (.iload_n 1, 1) := by decide +kernel
theorem dX11_image_27 : decode cX11_image 27 = .ok (.aaload, 1) := by decide +kernel
theorem dX11_image_28 : decode cX11_image 28 = .ok (.aload_n 0, 1) := by decide +kernel
theorem dX11_image_29 : decode cX11_image 29 = .ok (.getfield 35, 3) := by decide +kernel
theorem dX11_image_32 : decode cX11_image 32 = .ok (.invokevirtual 194, 3) := by decide +kernel
theorem dX11_image_35 : decode cX11_image 35 = .ok (.iconst 0, 1) := by decide +kernel
theorem dX11_image_36 : decode cX11_image 36 = .ok (.ireturn, 1) := by decide +kernel
theorem dX11_restore_0 : decode cX11_restore 0 = .ok (.iload_n 1, 1) := by decide +kernel
theorem dX11_restore_1 : decode cX11_restore 1 = .ok (.ifCond .lt 8, 3) := by decide +kernel
theorem dX11_restore_4 : decode cX11_restore 4 = .ok (.iload_n 1, 1) := by decide +kernel
theorem dX11_restore_5 : decode cX11_restore 5 = .ok (.iconst 2, 1) := by decide +kernel
theorem dX11_restore_6 : decode cX11_restore 6 = .ok (.if_icmp .lt 6, 3) := by decide +kernel
theorem dX11_restore_9 : decode cX11_restore 9 = .ok (.ldc 155, 2) := by decide +kernel
theorem dX11_restore_11 : decode cX11_restore 11 = .ok (.ireturn, 1) := by decide +kernel
theorem dX11_restore_12 : decode cX11_restore 12 = .ok (.aload_n 0, 1) := by decide +kernel
theorem dX11_restore_13 : decode cX11_restore 13 = .ok (.getfield 49, 3) := by decide +kernel
theorem dX11_restore_16 : decode cX11_restore 16 = .ok (.iload_n 1, 1) := by decide +kernel
theorem dX11_restore_17 : decode cX11_restore 17 = .ok (.aaload, 1) := by decide +kernel
theorem dX11_restore_18 : decode cX11_restore 18 = .ok (.astore_n 2, 1) := by decide +kernel
theorem dX11_restore_19 : decode cX11_restore 19 = .ok (.aload_n 2, 1) := by decide +kernel
theorem dX11_restore_20 : decode cX11_restore 20 = .ok (.ifnonnull 6, 3) := by decide +kernel
theorem dX11_restore_23 : decode cX11_restore 23 = .ok (.ldc 118, 2) := by decide +kernel
theorem dX11_restore_25 : decode cX11_restore 25 = .ok (.ireturn, 1) := by decide +kernel
theorem dX11_restore_26 : decode cX11_restore 26 = .ok (.aload_n 0, 1) := by decide +kernel
theorem dX11_restore_27 : decode cX11_restore 27 = .ok (.aload_n 2, 1) := by decide +kernel
theorem dX11_restore_28 : decode cX11_restore 28 = .ok (.invokevirtual 136, 3) := by decide +kernel
theorem dX11_restore_31 : decode cX11_restore 31 = .ok (.aload_n 0, 1) := by decide +kernel
theorem dX11_restore_32 : decode cX11_restore 32 = .ok (.getfield 35, 3) := by decide +kernel
theorem dX11_restore_35 : decode cX11_restore 35 = .ok (.aload_n 0, 1) := by decide +kernel
theorem dX11_restore_36 : decode cX11_restore 36 = .ok (.getfield 52, 3) := by decide +kernel
theorem dX11_restore_39 : decode cX11_restore 39 = .ok (.iload_n 1, 1) := by decide +kernel
theorem dX11_restore_40 : decode cX11_restore 40 = .ok (.aaload, 1) := by decide +kernel
theorem dX11_restore_41 : decode cX11_restore 41 = .ok (.invokevirtual 194, 3) := by decide +kernel
theorem dX11_restore_44 : decode cX11_restore 44 = .ok (.aload_n 0, 1) := by decide +kernel
theorem dX11_restore_45 : decode cX11_restore 45 = .ok (.getfield 45, 3) := by decide +kernel
theorem dX11_restore_48 : decode cX11_restore 48 = .ok (.invokevirtual 142, 3) := by decide +kernel
theorem dX11_restore_51 : decode cX11_restore 51 = .ok (.iconst 0, 1) := by decide +kernel
theorem dX11_restore_52 : decode cX11_restore 52 = .ok (.ireturn, 1) := by decide +kernel
theorem dX11_count_0 : decode cX11_count 0 = .ok (.iload_n 1, 1) := by decide +kernel
theorem dX11_count_1 : decode cX11_count 1 = .ok (.tableswitch 144 0 10 #[59, 67, 75, 83, 91, 99, 107, 115, 123, 131, 136], 59) := by decide +kernel
theorem dX11_count_60 : decode cX11_count 60 = .ok (.aload_n 0, 1) := by decide +kernel
theorem dX11_count_61 : decode cX11_count 61 = .ok (.getfield 71, 3) := by decide +kernel
theorem dX11_count_64 : decode cX11_count 64 = .ok (.getfield 320, 3) := by decide +kernel
theorem dX11_count_67 : decode cX11_count 67 = .ok (.ireturn, 1) := by decide +kernel
theorem dX11_count_68 : decode cX11_count 68 = .ok (.aload_n 0, 1) := by decide +kernel
theorem dX11_count_69 : decode cX11_count 69 = .ok (.getfield 71, 3) := by decide +kernel
theorem dX11_count_72 : decode cX11_count 72 = .ok (.getfield 335, 3) := by decide +kernel
theorem dX11_count_75 : decode cX11_count 75 = .ok (.ireturn, 1) := by decide +kernel
theorem dX11_count_76 : decode cX11_count 76 = .ok (.aload_n 0, 1) := by decide +kernel
theorem dX11_count_77 : decode cX11_count 77 = .ok (.getfield 71, 3) := by decide +kernel
theorem dX11_count_80 : decode cX11_count 80 = .ok (.invokevirtual 383, 3) := by decide +kernel
theorem dX11_count_83 : decode cX11_count 83 = .ok (.ireturn, 1) := by decide +kernel
theorem dX11_count_84 : decode cX11_count 84 = .ok (.aload_n 0, 1) := by decide +kernel
theorem dX11_count_85 : decode cX11_count 85 = .ok (.getfield 35, 3) := by decide +kernel
theorem dX11_count_88 : decode cX11_count 88 = .ok (.invokevirtual 249, 3) := by decide +kernel
theorem dX11_count_91 : decode cX11_count 91 = .ok (.ireturn, 1) := by decide +kernel
theorem dX11_count_92 : decode cX11_count 92 = .ok (.aload_n 0, 1) := by decide +kernel
theorem dX11_count_93 : decode cX11_count 93 = .ok (.getfield 35, 3) := by decide +kernel
theorem dX11_count_96 : decode cX11_count 96 = .ok (.invokevirtual 253, 3) := by decide +kernel
theorem dX11_count_99 : decode cX11_count 99 = .ok (.ireturn, 1) := by decide +kernel
theorem dX11_count_100 : decode cX11_count 100 = .ok (.aload_n 0, 1) := by decide +kernel
theorem dX11_count_101 : decode cX11_count 101 = .ok (.getfield 35, 3) := by decide +kernel
theorem dX11_count_104 : decode cX11_count 104 = .ok (.getfield 223, 3) := by decide +kernel
theorem dX11_count_107 : decode cX11_count 107 = .ok (.ireturn, 1) := by decide +kernel
theorem dX11_count_108 : decode cX11_count 108 = .ok (.aload_n 0, 1) := by decide +kernel
theorem dX11_count_109 : decode cX11_count 109 = .ok (.getfield 35, 3) := by decide +kernel
theorem dX11_count_112 : decode cX11_count 112 = .ok (.getfield 386, 3) := by decide +kernel
theorem dX11_count_115 : decode cX11_count 115 = .ok (.ireturn, 1) := by decide +kernel
theorem dX11_count_116 : decode cX11_count 116 = .ok (.aload_n 0, 1) := by decide +kernel
theorem dX11_count_117 : decode cX11_count 117 = .ok (.getfield 71, 3) := by decide +kernel
theorem dX11_count_120 : decode cX11_count 120 = .ok (.getfield 389, 3) := by decide +kernel
theorem dX11_count_123 : decode cX11_count 123 = .ok (.ireturn, 1) := by decide +kernel
theorem dX11_count_124 : decode cX11_count 124 = .ok (.aload_n 0, 1) := by decide +kernel
theorem dX11_count_125 : decode cX11_count 125 = .ok (.getfield 45, 3) := by decide +kernel
theorem dX11_count_128 : decode cX11_count 128 = .ok (.getfield 226, 3) := by decide +kernel
theorem dX11_count_131 : decode cX11_count 131 = .ok (.ireturn, 1) := by decide +kernel
theorem dX11_count_132 : decode cX11_count 132 = .ok (.aload_n 0, 1) := by decide +kernel
theorem dX11_count_133 : decode cX11_count 133 = .ok (.getfield 15, 3) := by decide +kernel
theorem dX11_count_136 : decode cX11_count 136 = .ok (.ireturn, 1) := by decide +kernel
theorem dX11_count_137 : decode cX11_count 137 = .ok (.aload_n 0, 1) := by decide +kernel
theorem dX11_count_138 : decode cX11_count 138 = .ok (.getfield 71, 3) := by decide +kernel
theorem dX11_count_141 : decode cX11_count 141 = .ok (.getfield 145, 3) := by decide +kernel
theorem dX11_count_144 : decode cX11_count 144 = .ok (.ireturn, 1) := by decide +kernel
theorem dX11_count_145 : decode cX11_count 145 = .ok (.iconst (-1), 1) := by decide +kernel
theorem dX11_count_146 : decode cX11_count 146 = .ok (.ireturn, 1) := by decide +kernel
theorem dX11_feedFour_0 : decode cX11_feedFour 0 = .ok (.bipush 24, 2) := by decide +kernel
theorem dX11_feedFour_2 : decode cX11_feedFour 2 = .ok (.istore_n 2, 1) := by decide +kernel
theorem dX11_feedFour_3 : decode cX11_feedFour 3 = .ok (.iload_n 2, 1) := by decide +kernel
theorem dX11_feedFour_4 : decode cX11_feedFour 4 = .ok (.ifCond .lt 44, 3) := by decide +kernel
theorem dX11_feedFour_7 : decode cX11_feedFour 7 = .ok (.aload_n 0, 1) := by decide +kernel
theorem dX11_feedFour_8 : decode cX11_feedFour 8 = .ok (.getfield 15, 3) := by decide +kernel
theorem dX11_feedFour_11 : decode cX11_feedFour 11 = .ok (.aload_n 0, 1) := by decide +kernel
theorem dX11_feedFour_12 : decode cX11_feedFour 12 = .ok (.getfield 11, 3) := by decide +kernel
theorem dX11_feedFour_15 : decode cX11_feedFour 15 = .ok (.arraylength, 1) := by decide +kernel
theorem dX11_feedFour_16 : decode cX11_feedFour 16 = .ok (.if_icmp .ge 32, 3) := by decide +kernel
theorem dX11_feedFour_19 : decode cX11_feedFour 19 = .ok (.aload_n 0, 1) := by decide +kernel
theorem dX11_feedFour_20 : decode cX11_feedFour 20 = .ok (.getfield 11, 3) := by decide +kernel
theorem dX11_feedFour_23 : decode cX11_feedFour 23 = .ok (.aload_n 0, 1) := by decide +kernel
theorem dX11_feedFour_24 : decode cX11_feedFour 24 = .ok (.getfield 15, 3) := by decide +kernel
theorem dX11_feedFour_27 : decode cX11_feedFour 27 = .ok (.iload_n 1, 1) := by decide +kernel
theorem dX11_feedFour_28 : decode cX11_feedFour 28 = .ok (.iload_n 2, 1) := by decide +kernel
theorem dX11_feedFour_29 : decode cX11_feedFour 29 = .ok (.iushr, 1) := by decide +kernel
theorem dX11_feedFour_30 : decode cX11_feedFour 30 = .ok (.i2b, 1) := by decide +kernel
theorem dX11_feedFour_31 : decode cX11_feedFour 31 = .ok (.bastore, 1) := by decide +kernel
theorem dX11_feedFour_32 : decode cX11_feedFour 32 = .ok (.aload_n 0, 1) := by decide +kernel
theorem dX11_feedFour_33 : decode cX11_feedFour 33 = .ok (.dup, 1) := by decide +kernel
theorem dX11_feedFour_34 : decode cX11_feedFour 34 = .ok (.getfield 15, 3) := by decide +kernel
theorem dX11_feedFour_37 : decode cX11_feedFour 37 = .ok (.iconst 1, 1) := by decide +kernel
theorem dX11_feedFour_38 : decode cX11_feedFour 38 = .ok (.iadd, 1) := by decide +kernel
theorem dX11_feedFour_39 : decode cX11_feedFour 39 = .ok (.putfield 15, 3) := by decide +kernel
theorem dX11_feedFour_42 : decode cX11_feedFour 42 = .ok (.iinc 2 (-8), 3) := by decide +kernel
theorem dX11_feedFour_45 : decode cX11_feedFour 45 = .ok (.goto (-42), 3) := by decide +kernel
theorem dX11_feedFour_48 : decode cX11_feedFour 48 = .ok (.return_, 1) := by decide +kernel
theorem dX11_spareSheet_0 : decode cX11_spareSheet 0 = .ok (.iconst 0, 1) := by decide +kernel
theorem dX11_spareSheet_1 : decode cX11_spareSheet 1 = .ok (.istore_n 1, 1) := by decide +kernel
theorem dX11_spareSheet_2 : decode cX11_spareSheet 2 = .ok (.iload_n 1, 1) := by decide +kernel
theorem dX11_spareSheet_3 : decode cX11_spareSheet 3 = .ok (.aload_n 0, 1) := by decide +kernel
theorem dX11_spareSheet_4 : decode cX11_spareSheet 4 = .ok (.getfield 28, 3) := by decide +kernel
theorem dX11_spareSheet_7 : decode cX11_spareSheet 7 = .ok (.arraylength, 1) := by decide +kernel
theorem dX11_spareSheet_8 : decode cX11_spareSheet 8 = .ok (.if_icmp .ge 68, 3) := by decide +kernel
theorem dX11_spareSheet_11 : decode cX11_spareSheet 11 = .ok (.aload_n 0, 1) := by decide +kernel
theorem dX11_spareSheet_12 : decode cX11_spareSheet 12 = .ok (.getfield 28, 3) := by decide +kernel
theorem dX11_spareSheet_15 : decode cX11_spareSheet 15 = .ok (.iload_n 1, 1) := by decide +kernel
theorem dX11_spareSheet_16 : decode cX11_spareSheet 16 = .ok (.aaload, 1) := by decide +kernel
theorem dX11_spareSheet_17 : decode cX11_spareSheet 17 = .ok (.ifnonnull 16, 3) := by decide +kernel
theorem dX11_spareSheet_20 : decode cX11_spareSheet 20 = .ok (.aload_n 0, 1) := by decide +kernel
theorem dX11_spareSheet_21 : decode cX11_spareSheet 21 = .ok (.getfield 28, 3) := by decide +kernel
theorem dX11_spareSheet_24 : decode cX11_spareSheet 24 = .ok (.iload_n 1, 1) := by decide +kernel
theorem dX11_spareSheet_25 : decode cX11_spareSheet 25 = .ok (.new 26, 3) := by decide +kernel
theorem dX11_spareSheet_28 : decode cX11_spareSheet 28 = .ok (.dup, 1) := by decide +kernel
theorem dX11_spareSheet_29 : decode cX11_spareSheet 29 = .ok (.invokespecial 70, 3) := by decide +kernel
theorem dX11_spareSheet_32 : decode cX11_spareSheet 32 = .ok (.aastore, 1) := by decide +kernel
theorem dX11_spareSheet_33 : decode cX11_spareSheet 33 = .ok (.aload_n 0, 1) := by decide +kernel
theorem dX11_spareSheet_34 : decode cX11_spareSheet 34 = .ok (.getfield 28, 3) := by decide +kernel
theorem dX11_spareSheet_37 : decode cX11_spareSheet 37 = .ok (.iload_n 1, 1) := by decide +kernel
theorem dX11_spareSheet_38 : decode cX11_spareSheet 38 = .ok (.aaload, 1) := by decide +kernel
theorem dX11_spareSheet_39 : decode cX11_spareSheet 39 = .ok (.astore_n 2, 1) := by decide +kernel
theorem dX11_spareSheet_40 : decode cX11_spareSheet 40 = .ok (.aload_n 2, 1) := by decide +kernel
theorem dX11_spareSheet_41 : decode cX11_spareSheet 41 = .ok (.aload_n 0, 1) := by decide +kernel
theorem dX11_spareSheet_42 : decode cX11_spareSheet 42 = .ok (.getfield 71, 3) := by decide +kernel
theorem dX11_spareSheet_45 : decode cX11_spareSheet 45 = .ok (.if_acmp .eq 25, 3) := by decide +kernel
theorem dX11_spareSheet_48 : decode cX11_spareSheet 48 = .ok (.aload_n 2, 1) := by decide +kernel
theorem dX11_spareSheet_49 : decode cX11_spareSheet 49 = .ok (.aload_n 0, 1) := by decide +kernel
theorem dX11_spareSheet_50 : decode cX11_spareSheet 50 = .ok (.getfield 49, 3) := by decide +kernel
theorem dX11_spareSheet_53 : decode cX11_spareSheet 53 = .ok (.iconst 0, 1) := by decide +kernel
theorem dX11_spareSheet_54 : decode cX11_spareSheet 54 = .ok (.aaload, 1) := by decide +kernel
theorem dX11_spareSheet_55 : decode cX11_spareSheet 55 = .ok (.if_acmp .eq 15, 3) := by decide +kernel
theorem dX11_spareSheet_58 : decode cX11_spareSheet 58 = .ok (.aload_n 2, 1) := by decide +kernel
theorem dX11_spareSheet_59 : decode cX11_spareSheet 59 = .ok (.aload_n 0, 1) := by decide +kernel
theorem dX11_spareSheet_60 : decode cX11_spareSheet 60 = .ok (.getfield 49, 3) := by decide +kernel
theorem dX11_spareSheet_63 : decode cX11_spareSheet 63 = .ok (.iconst 1, 1) := by decide +kernel
theorem dX11_spareSheet_64 : decode cX11_spareSheet 64 = .ok (.aaload, 1) := by decide +kernel
theorem dX11_spareSheet_65 : decode cX11_spareSheet 65 = .ok (.if_acmp .eq 5, 3) := by decide +kernel
theorem dX11_spareSheet_68 : decode cX11_spareSheet 68 = .ok (.aload_n 2, 1) := by decide +kernel
theorem dX11_spareSheet_69 : decode cX11_spareSheet 69 = .ok (.areturn, 1) := by decide +kernel
theorem dX11_spareSheet_70 : decode cX11_spareSheet 70 = .ok (.iinc 1 1, 3) := by decide +kernel
theorem dX11_spareSheet_73 : decode cX11_spareSheet 73 = .ok (.goto (-71), 3) := by decide +kernel
theorem dX11_spareSheet_76 : decode cX11_spareSheet 76 = .ok (.new 26, 3) := by decide +kernel
theorem dX11_spareSheet_79 : decode cX11_spareSheet 79 = .ok (.dup, 1) := by decide +kernel
theorem dX11_spareSheet_80 : decode cX11_spareSheet 80 = .ok (.invokespecial 70, 3) := by decide +kernel
theorem dX11_spareSheet_83 : decode cX11_spareSheet 83 = .ok (.areturn, 1) := by decide +kernel
theorem dX11_useSheet_0 : decode cX11_useSheet 0 = .ok (.aload_n 0, 1) := by decide +kernel
theorem dX11_useSheet_1 : decode cX11_useSheet 1 = .ok (.aload_n 1, 1) := by decide +kernel
theorem dX11_useSheet_2 : decode cX11_useSheet 2 = .ok (.putfield 71, 3) := by decide +kernel
theorem dX11_useSheet_5 : decode cX11_useSheet 5 = .ok (.aload_n 0, 1) := by decide +kernel
theorem dX11_useSheet_6 : decode cX11_useSheet 6 = .ok (.getfield 80, 3) := by decide +kernel
theorem dX11_useSheet_9 : decode cX11_useSheet 9 = .ok (.aload_n 1, 1) := by decide +kernel
theorem dX11_useSheet_10 : decode cX11_useSheet 10 = .ok (.invokevirtual 392, 3) := by decide +kernel
theorem dX11_useSheet_13 : decode cX11_useSheet 13 = .ok (.return_, 1) := by decide +kernel
theorem dX11_hasBoth_0 : decode cX11_hasBoth 0 = .ok (.aload_n 0, 1) := by decide +kernel
theorem dX11_hasBoth_1 : decode cX11_hasBoth 1 = .ok (.getfield 71, 3) := by decide +kernel
theorem dX11_hasBoth_4 : decode cX11_hasBoth 4 = .ok (.iload_n 1, 1) := by decide +kernel
theorem dX11_hasBoth_5 : decode cX11_hasBoth 5 = .ok (.invokevirtual 151, 3) := by decide +kernel
theorem dX11_hasBoth_8 : decode cX11_hasBoth 8 = .ok (.ifCond .eq 18, 3) := by decide +kernel
theorem dX11_hasBoth_11 : decode cX11_hasBoth 11 = .ok (.aload_n 0, 1) := by decide +kernel
theorem dX11_hasBoth_12 : decode cX11_hasBoth 12 = .ok (.getfield 71, 3) := by decide +kernel
theorem dX11_hasBoth_15 : decode cX11_hasBoth 15 = .ok (.iload_n 2, 1) := by decide +kernel
theorem dX11_hasBoth_16 : decode cX11_hasBoth 16 = .ok (.invokevirtual 176, 3) := by decide +kernel
theorem dX11_hasBoth_19 : decode cX11_hasBoth 19 = .ok (.ifCond .eq 7, 3) := by decide +kernel
theorem dX11_hasBoth_22 : decode cX11_hasBoth 22 = .ok (.iconst 1, 1) := by decide +kernel
theorem dX11_hasBoth_23 : decode cX11_hasBoth 23 = .ok (.goto 4, 3) := by decide +kernel
theorem dX11_hasBoth_26 : decode cX11_hasBoth 26 = .ok (.iconst 0, 1) := by decide +kernel
theorem dX11_hasBoth_27 : decode cX11_hasBoth 27 = .ok (.ireturn, 1) := by decide +kernel
theorem dX11_isStore_0 : decode cX11_isStore 0 = .ok (.iload_n 0, 1) := by decide +kernel
theorem dX11_isStore_1 : decode cX11_isStore 1 = .ok (.bipush (-20), 2) := by decide +kernel
theorem dX11_isStore_3 : decode cX11_isStore 3 = .ok (.if_icmp .lt 13, 3) := by decide +kernel
theorem dX11_isStore_6 : decode cX11_isStore 6 = .ok (.iload_n 0, 1) := by decide +kernel
theorem dX11_isStore_7 : decode cX11_isStore 7 = .ok (.bipush 20, 2) := by decide +kernel
theorem dX11_isStore_9 : decode cX11_isStore 9 = .ok (.if_icmp .gt 7, 3) := by decide +kernel
theorem dX11_isStore_12 : decode cX11_isStore 12 = .ok (.iconst 1, 1) := by decide +kernel
theorem dX11_isStore_13 : decode cX11_isStore 13 = .ok (.goto 4, 3) := by decide +kernel
theorem dX11_isStore_16 : decode cX11_isStore 16 = .ok (.iconst 0, 1) := by decide +kernel
theorem dX11_isStore_17 : decode cX11_isStore 17 = .ok (.ireturn, 1) := by decide +kernel
theorem dX11_isDraw_0 : decode cX11_isDraw 0 = .ok (.iload_n 0, 1) := by decide +kernel
theorem dX11_isDraw_1 : decode cX11_isDraw 1 = .ok (.bipush (-2), 2) := by decide +kernel
theorem dX11_isDraw_3 : decode cX11_isDraw 3 = .ok (.if_icmp .lt 12, 3) := by decide +kernel
theorem dX11_isDraw_6 : decode cX11_isDraw 6 = .ok (.iload_n 0, 1) := by decide +kernel
theorem dX11_isDraw_7 : decode cX11_isDraw 7 = .ok (.iconst 2, 1) := by decide +kernel
theorem dX11_isDraw_8 : decode cX11_isDraw 8 = .ok (.if_icmp .gt 7, 3) := by decide +kernel
theorem dX11_isDraw_11 : decode cX11_isDraw 11 = .ok (.iconst 1, 1) := by decide +kernel
theorem dX11_isDraw_12 : decode cX11_isDraw 12 = .ok (.goto 4, 3) := by decide +kernel
theorem dX11_isDraw_15 : decode cX11_isDraw 15 = .ok (.iconst 0, 1) := by decide +kernel
theorem dX11_isDraw_16 : decode cX11_isDraw 16 = .ok (.ireturn, 1) := by decide +kernel
theorem dX11_isTray_0 : decode cX11_isTray 0 = .ok (.iload_n 0, 1) := by decide +kernel
theorem dX11_isTray_1 : decode cX11_isTray 1 = .ok (.ifCond .lt 12, 3) := by decide +kernel
theorem dX11_isTray_4 : decode cX11_isTray 4 = .ok (.iload_n 0, 1) := by decide +kernel
theorem dX11_isTray_5 : decode cX11_isTray 5 = .ok (.iconst 4, 1) := by decide +kernel
theorem dX11_isTray_6 : decode cX11_isTray 6 = .ok (.if_icmp .ge 7, 3) := by decide +kernel
theorem dX11_isTray_9 : decode cX11_isTray 9 = .ok (.iconst 1, 1) := by decide +kernel
theorem dX11_isTray_10 : decode cX11_isTray 10 = .ok (.goto 4, 3) := by decide +kernel
theorem dX11_isTray_13 : decode cX11_isTray 13 = .ok (.iconst 0, 1) := by decide +kernel
theorem dX11_isTray_14 : decode cX11_isTray 14 = .ok (.ireturn, 1) := by decide +kernel
theorem dX11_isOfRow_0 : decode cX11_isOfRow 0 = .ok (.iload_n 0, 1) := by decide +kernel
theorem dX11_isOfRow_1 : decode cX11_isOfRow 1 = .ok (.ifCond .eq 20, 3) := by decide +kernel
theorem dX11_isOfRow_4 : decode cX11_isOfRow 4 = .ok (.iload_n 0, 1) := by decide +kernel
theorem dX11_isOfRow_5 : decode cX11_isOfRow 5 = .ok (.iconst 1, 1) := by decide +kernel
theorem dX11_isOfRow_6 : decode cX11_isOfRow 6 = .ok (.if_icmp .eq 15, 3) := by decide +kernel
theorem dX11_isOfRow_9 : decode cX11_isOfRow 9 = .ok (.iload_n 0, 1) := by decide +kernel
theorem dX11_isOfRow_10 : decode cX11_isOfRow 10 = .ok (.bipush 10, 2) := by decide +kernel
theorem dX11_isOfRow_12 : decode cX11_isOfRow 12 = .ok (.if_icmp .lt 13, 3) := by decide +kernel
theorem dX11_isOfRow_15 : decode cX11_isOfRow 15 = .ok (.iload_n 0, 1) := by decide +kernel
theorem dX11_isOfRow_16 : decode cX11_isOfRow 16 = .ok (.bipush 22, 2) := by decide +kernel
theorem dX11_isOfRow_18 : decode cX11_isOfRow 18 = .ok (.if_icmp .ge 7, 3) := by decide +kernel
theorem dX11_isOfRow_21 : decode cX11_isOfRow 21 = .ok (.iconst 1, 1) := by decide +kernel
theorem dX11_isOfRow_22 : decode cX11_isOfRow 22 = .ok (.goto 4, 3) := by decide +kernel
theorem dX11_isOfRow_25 : decode cX11_isOfRow 25 = .ok (.iconst 0, 1) := by decide +kernel
theorem dX11_isOfRow_26 : decode cX11_isOfRow 26 = .ok (.ireturn, 1) := by decide +kernel
theorem dX11_bitOf_0 : decode cX11_bitOf 0 = .ok (.iconst 1, 1) := by decide +kernel
theorem dX11_bitOf_1 : decode cX11_bitOf 1 = .ok (.iload_n 0, 1) := by decide +kernel
theorem dX11_bitOf_2 : decode cX11_bitOf 2 = .ok (.iconst 2, 1) := by decide +kernel
theorem dX11_bitOf_3 : decode cX11_bitOf 3 = .ok (.iadd, 1) := by decide +kernel
theorem dX11_bitOf_4 : decode cX11_bitOf 4 = .ok (.ishl, 1) := by decide +kernel
theorem dX11_bitOf_5 : decode cX11_bitOf 5 = .ok (.ireturn, 1) := by decide +kernel
theorem dX11_takeUp_0 : decode cX11_takeUp 0 = .ok (.aload_n 0, 1) := by decide +kernel
theorem dX11_takeUp_1 : decode cX11_takeUp 1 = .ok (.getfield 80, 3) := by decide +kernel
theorem dX11_takeUp_4 : decode cX11_takeUp 4 = .ok (.iload_n 1, 1) := by decide +kernel
theorem dX11_takeUp_5 : decode cX11_takeUp 5 = .ok (.aload_n 0, 1) := by decide +kernel
theorem dX11_takeUp_6 : decode cX11_takeUp 6 = .ok (.getfield 35, 3) := by decide +kernel
theorem dX11_takeUp_9 : decode cX11_takeUp 9 = .ok (.getfield 162, 3) := by decide +kernel
theorem dX11_takeUp_12 : decode cX11_takeUp 12 = .ok (.iload_n 1, 1) := by decide +kernel
theorem dX11_takeUp_13 : decode cX11_takeUp 13 = .ok (.iaload, 1) := by decide +kernel
theorem dX11_takeUp_14 : decode cX11_takeUp 14 = .ok (.iload_n 2, 1) := by decide +kernel
theorem dX11_takeUp_15 : decode cX11_takeUp 15 = .ok (.invokevirtual 393, 3) := by decide +kernel
theorem dX11_takeUp_18 : decode cX11_takeUp 18 = .ok (.return_, 1) := by decide +kernel
theorem dX11_findBest_0 : decode cX11_findBest 0 = .ok (.aload_n 0, 1) := by decide +kernel
theorem dX11_findBest_1 : decode cX11_findBest 1 = .ok (.iload_n 1, 1) := by decide +kernel
theorem dX11_findBest_2 : decode cX11_findBest 2 = .ok (.iload_n 2, 1) := by decide +kernel
theorem dX11_findBest_3 : decode cX11_findBest 3 = .ok (.invokevirtual 186, 3) := by decide +kernel
theorem dX11_findBest_6 : decode cX11_findBest 6 = .ok (.aload_n 0, 1) := by decide +kernel
theorem dX11_findBest_7 : decode cX11_findBest 7 = .ok (.getfield 35, 3) := by decide +kernel
theorem dX11_findBest_10 : decode cX11_findBest 10 = .ok (.getfield 156, 3) := by decide +kernel
theorem dX11_findBest_13 : decode cX11_findBest 13 = .ok (.iload_n 1, 1) := by decide +kernel
theorem dX11_findBest_14 : decode cX11_findBest 14 = .ok (.iaload, 1) := by decide +kernel
theorem dX11_findBest_15 : decode cX11_findBest 15 = .ok (.istore 5, 2) := by decide +kernel
theorem dX11_findBest_17 : decode cX11_findBest 17 = .ok (.aload_n 0, 1) := by decide +kernel
theorem dX11_findBest_18 : decode cX11_findBest 18 = .ok (.getfield 96, 3) := by decide +kernel
theorem dX11_findBest_21 : decode cX11_findBest 21 = .ok (.iload 5, 2) := by decide +kernel
theorem dX11_findBest_23 : decode cX11_findBest 23 = .ok (.iload 5, 2) := by decide +kernel
theorem dX11_findBest_25 : decode cX11_findBest 25 = .ok (.iload_n 3, 1) := by decide +kernel
theorem dX11_findBest_26 : decode cX11_findBest 26 = .ok (.aload 4, 2) := by decide +kernel
theorem dX11_findBest_28 : decode cX11_findBest 28 = .ok (.invokevirtual 308, 3) := by decide +kernel
theorem dX11_findBest_31 : decode cX11_findBest 31 = .ok (.aload_n 0, 1) := by decide +kernel
theorem dX11_findBest_32 : decode cX11_findBest 32 = .ok (.getfield 96, 3) := by decide +kernel
theorem dX11_findBest_35 : decode cX11_findBest 35 = .ok (.iload 5, 2) := by decide +kernel
theorem dX11_findBest_37 : decode cX11_findBest 37 = .ok (.invokevirtual 396, 3) := by decide +kernel
theorem dX11_findBest_40 : decode cX11_findBest 40 = .ok (.ireturn, 1) := by decide +kernel
theorem dX11_endsOf_0 : decode cX11_endsOf 0 = .ok (.aload_n 0, 1) := by decide +kernel
theorem dX11_endsOf_1 : decode cX11_endsOf 1 = .ok (.iload_n 1, 1) := by decide +kernel
theorem dX11_endsOf_2 : decode cX11_endsOf 2 = .ok (.iload_n 2, 1) := by decide +kernel
theorem dX11_endsOf_3 : decode cX11_endsOf 3 = .ok (.invokevirtual 186, 3) := by decide +kernel
theorem dX11_endsOf_6 : decode cX11_endsOf 6 = .ok (.aload_n 0, 1) := by decide +kernel
theorem dX11_endsOf_7 : decode cX11_endsOf 7 = .ok (.getfield 66, 3) := by decide +kernel
theorem dX11_endsOf_10 : decode cX11_endsOf 10 = .ok (.ldc_w 307, 3) := by decide +kernel
theorem dX11_endsOf_13 : decode cX11_endsOf 13 = .ok (.invokestatic 399, 3) := by decide +kernel
theorem dX11_endsOf_16 : decode cX11_endsOf 16 = .ok (.aload_n 0, 1) := by decide +kernel
theorem dX11_endsOf_17 : decode cX11_endsOf 17 = .ok (.getfield 66, 3) := by decide +kernel
theorem dX11_endsOf_20 : decode cX11_endsOf 20 = .ok (.aload_n 0, 1) := by decide +kernel
theorem dX11_endsOf_21 : decode cX11_endsOf 21 = .ok (.getfield 35, 3) := by decide +kernel
theorem dX11_endsOf_24 : decode cX11_endsOf 24 = .ok (.getfield 156, 3) := by decide +kernel
theorem dX11_endsOf_27 : decode cX11_endsOf 27 = .ok (.iload_n 1, 1) := by decide +kernel
theorem dX11_endsOf_28 : decode cX11_endsOf 28 = .ok (.iaload, 1) := by decide +kernel
theorem dX11_endsOf_29 : decode cX11_endsOf 29 = .ok (.bipush 20, 2) := by decide +kernel
theorem dX11_endsOf_31 : decode cX11_endsOf 31 = .ok (.iadd, 1) := by decide +kernel
theorem dX11_endsOf_32 : decode cX11_endsOf 32 = .ok (.iconst 0, 1) := by decide +kernel
theorem dX11_endsOf_33 : decode cX11_endsOf 33 = .ok (.iastore, 1) := by decide +kernel
theorem dX11_endsOf_34 : decode cX11_endsOf 34 = .ok (.aload_n 0, 1) := by decide +kernel
theorem dX11_endsOf_35 : decode cX11_endsOf 35 = .ok (.getfield 96, 3) := by decide +kernel
theorem dX11_endsOf_38 : decode cX11_endsOf 38 = .ok (.aload_n 0, 1) := by decide +kernel
theorem dX11_endsOf_39 : decode cX11_endsOf 39 = .ok (.getfield 66, 3) := by decide +kernel
theorem dX11_endsOf_42 : decode cX11_endsOf 42 = .ok (.aload_n 0, 1) := by decide +kernel
theorem dX11_endsOf_43 : decode cX11_endsOf 43 = .ok (.getfield 66, 3) := by decide +kernel
theorem dX11_endsOf_46 : decode cX11_endsOf 46 = .ok (.invokevirtual 405, 3) := by decide +kernel
theorem dX11_endsOf_49 : decode cX11_endsOf 49 = .ok (.aload_n 0, 1) := by decide +kernel
theorem dX11_endsOf_50 : decode cX11_endsOf 50 = .ok (.getfield 66, 3) := by decide +kernel
theorem dX11_endsOf_53 : decode cX11_endsOf 53 = .ok (.areturn, 1) := by decide +kernel
theorem dX11_refuseHeard_0 : decode cX11_refuseHeard 0 = .ok (.iload_n 1, 1) := by decide +kernel
theorem dX11_refuseHeard_1 : decode cX11_refuseHeard 1 = .ok (.invokestatic 232, 3) := by decide +kernel
theorem dX11_refuseHeard_4 : decode cX11_refuseHeard 4 = .ok (.ifCond .eq 12, 3) := by decide +kernel
theorem dX11_refuseHeard_7 : decode cX11_refuseHeard 7 = .ok (.aload_n 0, 1) := by decide +kernel
theorem dX11_refuseHeard_8 : decode cX11_refuseHeard 8 = .ok (.iload_n 2, 1) := by decide +kernel
theorem dX11_refuseHeard_9 : decode cX11_refuseHeard 9 = .ok (.iload_n 3, 1) := by decide +kernel
theorem dX11_refuseHeard_10 : decode cX11_refuseHeard 10 = .ok (.invokevirtual 262, 3) := by decide +kernel
theorem dX11_refuseHeard_13 : decode cX11_refuseHeard 13 = .ok (.ifCond .ne 6, 3) := by decide +kernel
theorem dX11_refuseHeard_16 : decode cX11_refuseHeard 16 = .ok (.ldc 155, 2) := by decide +kernel
theorem dX11_refuseHeard_18 : decode cX11_refuseHeard 18 = .ok (.ireturn, 1) := by decide +kernel
theorem dX11_refuseHeard_19 : decode cX11_refuseHeard 19 = .ok (.aload_n 0, 1) := by decide +kernel
theorem dX11_refuseHeard_20 : decode cX11_refuseHeard 20 = .ok (.getfield 58, 3) := by decide +kernel
theorem dX11_refuseHeard_23 : decode cX11_refuseHeard 23 = .ok (.iload_n 1, 1) := by decide +kernel
theorem dX11_refuseHeard_24 : decode cX11_refuseHeard 24 = .ok (.aaload, 1) := by decide +kernel
theorem dX11_refuseHeard_25 : decode cX11_refuseHeard 25 = .ok (.astore 4, 2) := by decide +kernel
theorem dX11_refuseHeard_27 : decode cX11_refuseHeard 27 = .ok (.aload 4, 2) := by decide +kernel
theorem dX11_refuseHeard_29 : decode cX11_refuseHeard 29 = .ok (.invokevirtual 235, 3) := by decide +kernel
theorem dX11_refuseHeard_32 : decode cX11_refuseHeard 32 = .ok (.ifCond .eq 6, 3) := by decide +kernel
theorem dX11_refuseHeard_35 : decode cX11_refuseHeard 35 = .ok (.ldc 239, 2) := by decide +kernel
theorem dX11_refuseHeard_37 : decode cX11_refuseHeard 37 = .ok (.ireturn, 1) := by decide +kernel
theorem dX11_refuseHeard_38 : decode cX11_refuseHeard 38 = .ok (.aload 4, 2) := by decide +kernel
theorem dX11_refuseHeard_40 : decode cX11_refuseHeard 40 = .ok (.getfield 240, 3) := by decide +kernel
theorem dX11_refuseHeard_43 : decode cX11_refuseHeard 43 = .ok (.aload_n 0, 1) := by decide +kernel
theorem dX11_refuseHeard_44 : decode cX11_refuseHeard 44 = .ok (.getfield 71, 3) := by decide +kernel
theorem dX11_refuseHeard_47 : decode cX11_refuseHeard 47 = .ok (.iload_n 3, 1) := by decide +kernel
theorem dX11_refuseHeard_48 : decode cX11_refuseHeard 48 = .ok (.invokevirtual 179, 3) := by decide +kernel
theorem dX11_refuseHeard_51 : decode cX11_refuseHeard 51 = .ok (.if_icmp .eq 7, 3) := by decide +kernel
theorem dX11_refuseHeard_54 : decode cX11_refuseHeard 54 = .ok (.ldc_w 409, 3) := by decide +kernel
theorem dX11_refuseHeard_57 : decode cX11_refuseHeard 57 = .ok (.ireturn, 1) := by decide +kernel
theorem dX11_refuseHeard_58 : decode cX11_refuseHeard 58 = .ok (.iconst 0, 1) := by decide +kernel
theorem dX11_refuseHeard_59 : decode cX11_refuseHeard 59 = .ok (.istore 5, 2) := by decide +kernel
theorem dX11_refuseHeard_61 : decode cX11_refuseHeard 61 = .ok (.iload 5, 2) := by decide +kernel
theorem dX11_refuseHeard_63 : decode cX11_refuseHeard 63 = .ok (.aload 4, 2) := by decide +kernel
theorem dX11_refuseHeard_65 : decode cX11_refuseHeard 65 = .ok (.getfield 240, 3) := by decide +kernel
theorem dX11_refuseHeard_68 : decode cX11_refuseHeard 68 = .ok (.if_icmp .ge 83, 3) := by decide +kernel
theorem dX11_refuseHeard_71 : decode cX11_refuseHeard 71 = .ok (.iload 5, 2) := by decide +kernel
theorem dX11_refuseHeard_73 : decode cX11_refuseHeard 73 = .ok (.bipush 12, 2) := by decide +kernel
theorem dX11_refuseHeard_75 : decode cX11_refuseHeard 75 = .ok (.if_icmp .ge 76, 3) := by decide +kernel
theorem dX11_refuseHeard_78 : decode cX11_refuseHeard 78 = .ok (.aload 4, 2) := by decide +kernel
theorem dX11_refuseHeard_80 : decode cX11_refuseHeard 80 = .ok (.iload 5, 2) := by decide +kernel
theorem dX11_refuseHeard_82 : decode cX11_refuseHeard 82 = .ok (.invokevirtual 241, 3) := by decide +kernel
theorem dX11_refuseHeard_85 : decode cX11_refuseHeard 85 = .ok (.lstore 6, 2) := by decide +kernel
theorem dX11_refuseHeard_87 : decode cX11_refuseHeard 87 = .ok (.lload 6, 2) := by decide +kernel
theorem dX11_refuseHeard_89 : decode cX11_refuseHeard 89 = .ok (.ldc2_w 410, 3) := by decide +kernel
theorem dX11_refuseHeard_92 : decode cX11_refuseHeard 92 = .ok (.lcmp, 1) := by decide +kernel
theorem dX11_refuseHeard_93 : decode cX11_refuseHeard 93 = .ok (.ifCond .ne 15, 3) := by decide +kernel
theorem dX11_refuseHeard_96 : decode cX11_refuseHeard 96 = .ok (.aload_n 0, 1) := by decide +kernel
theorem dX11_refuseHeard_97 : decode cX11_refuseHeard 97 = .ok (.getfield 62, 3) := by decide +kernel
theorem dX11_refuseHeard_100 : decode cX11_refuseHeard 100 = .ok (.iload 5, 2) := by decide +kernel
theorem dX11_refuseHeard_102 : decode cX11_refuseHeard 102 = .ok (.bipush 31, 2) := by decide +kernel
theorem dX11_refuseHeard_104 : decode cX11_refuseHeard 104 = .ok (.iastore, 1) := by decide +kernel
theorem dX11_refuseHeard_105 : decode cX11_refuseHeard 105 = .ok (.goto 40, 3) := by decide +kernel
theorem dX11_refuseHeard_108 : decode cX11_refuseHeard 108 = .ok (.lload 6, 2) := by decide +kernel
theorem dX11_refuseHeard_110 : decode cX11_refuseHeard 110 = .ok (.ldc2_w 412, 3) := by decide +kernel
theorem dX11_refuseHeard_113 : decode cX11_refuseHeard 113 = .ok (.lcmp, 1) := by decide +kernel
theorem dX11_refuseHeard_114 : decode cX11_refuseHeard 114 = .ok (.ifCond .lt 28, 3) := by decide +kernel
theorem dX11_refuseHeard_117 : decode cX11_refuseHeard 117 = .ok (.lload 6, 2) := by decide +kernel
theorem dX11_refuseHeard_119 : decode cX11_refuseHeard 119 = .ok (.ldc2_w 414, 3) := by decide +kernel
theorem dX11_refuseHeard_122 : decode cX11_refuseHeard 122 = .ok (.lcmp, 1) := by decide +kernel
theorem dX11_refuseHeard_123 : decode cX11_refuseHeard 123 = .ok (.ifCond .gt 19, 3) := by decide +kernel
theorem dX11_refuseHeard_126 : decode cX11_refuseHeard 126 = .ok (.aload_n 0, 1) := by decide +kernel
theorem dX11_refuseHeard_127 : decode cX11_refuseHeard 127 = .ok (.getfield 62, 3) := by decide +kernel
theorem dX11_refuseHeard_130 : decode cX11_refuseHeard 130 = .ok (.iload 5, 2) := by decide +kernel
theorem dX11_refuseHeard_132 : decode cX11_refuseHeard 132 = .ok (.lload 6, 2) := by decide +kernel
theorem dX11_refuseHeard_134 : decode cX11_refuseHeard 134 = .ok (.l2i, 1) := by decide +kernel
theorem dX11_refuseHeard_135 : decode cX11_refuseHeard 135 = .ok (.invokestatic 342, 3) := by decide +kernel
theorem dX11_refuseHeard_138 : decode cX11_refuseHeard 138 = .ok (.iastore, 1) := by decide +kernel
theorem dX11_refuseHeard_139 : decode cX11_refuseHeard 139 = .ok (.goto 6, 3) := by decide +kernel
theorem dX11_refuseHeard_142 : decode cX11_refuseHeard 142 = .ok (.ldc 123, 2) := by decide +kernel
theorem dX11_refuseHeard_144 : decode cX11_refuseHeard 144 = .ok (.ireturn, 1) := by decide +kernel
theorem dX11_refuseHeard_145 : decode cX11_refuseHeard 145 = .ok (.iinc 5 1, 3) := by decide +kernel
theorem dX11_refuseHeard_148 : decode cX11_refuseHeard 148 = .ok (.goto (-87), 3) := by decide +kernel
theorem dX11_refuseHeard_151 : decode cX11_refuseHeard 151 = .ok (.iconst 0, 1) := by decide +kernel
theorem dX11_refuseHeard_152 : decode cX11_refuseHeard 152 = .ok (.ireturn, 1) := by decide +kernel
theorem dX11_tempersHeard_0 : decode cX11_tempersHeard 0 = .ok (.iconst 0, 1) := by decide +kernel
theorem dX11_tempersHeard_1 : decode cX11_tempersHeard 1 = .ok (.istore_n 3, 1) := by decide +kernel
theorem dX11_tempersHeard_2 : decode cX11_tempersHeard 2 = .ok (.iconst 0, 1) := by decide +kernel
theorem dX11_tempersHeard_3 : decode cX11_tempersHeard 3 = .ok (.istore 4, 2) := by decide +kernel
theorem dX11_tempersHeard_5 : decode cX11_tempersHeard 5 = .ok (.iload 4, 2) := by decide +kernel
theorem dX11_tempersHeard_7 : decode cX11_tempersHeard 7 = .ok (.bipush 9, 2) := by decide +kernel
theorem dX11_tempersHeard_9 : decode cX11_tempersHeard 9 = .ok (.if_icmp .gt 57, 3) := by decide +kernel
theorem dX11_tempersHeard_12 : decode cX11_tempersHeard 12 = .ok (.aload_n 0, 1) := by decide +kernel
theorem dX11_tempersHeard_13 : decode cX11_tempersHeard 13 = .ok (.getfield 80, 3) := by decide +kernel
theorem dX11_tempersHeard_16 : decode cX11_tempersHeard 16 = .ok (.iload_n 1, 1) := by decide +kernel
theorem dX11_tempersHeard_17 : decode cX11_tempersHeard 17 = .ok (.iload 4, 2) := by decide +kernel
theorem dX11_tempersHeard_19 : decode cX11_tempersHeard 19 = .ok (.iload_n 2, 1) := by decide +kernel
theorem dX11_tempersHeard_20 : decode cX11_tempersHeard 20 = .ok (.invokevirtual 393, 3) := by decide +kernel
theorem dX11_tempersHeard_23 : decode cX11_tempersHeard 23 = .ok (.aload_n 0, 1) := by decide +kernel
theorem dX11_tempersHeard_24 : decode cX11_tempersHeard 24 = .ok (.getfield 89, 3) := by decide +kernel
theorem dX11_tempersHeard_27 : decode cX11_tempersHeard 27 = .ok (.aload_n 0, 1) := by decide +kernel
theorem dX11_tempersHeard_28 : decode cX11_tempersHeard 28 = .ok (.getfield 35, 3) := by decide +kernel
theorem dX11_tempersHeard_31 : decode cX11_tempersHeard 31 = .ok (.getfield 156, 3) := by decide +kernel
theorem dX11_tempersHeard_34 : decode cX11_tempersHeard 34 = .ok (.iload_n 1, 1) := by decide +kernel
theorem dX11_tempersHeard_35 : decode cX11_tempersHeard 35 = .ok (.iaload, 1) := by decide +kernel
theorem dX11_tempersHeard_36 : decode cX11_tempersHeard 36 = .ok (.invokevirtual 268, 3) := by decide +kernel
theorem dX11_tempersHeard_39 : decode cX11_tempersHeard 39 = .ok (.aload_n 0, 1) := by decide +kernel
theorem dX11_tempersHeard_40 : decode cX11_tempersHeard 40 = .ok (.getfield 89, 3) := by decide +kernel
theorem dX11_tempersHeard_43 : decode cX11_tempersHeard 43 = .ok (.aload_n 0, 1) := by decide +kernel
theorem dX11_tempersHeard_44 : decode cX11_tempersHeard 44 = .ok (.getfield 62, 3) := by decide +kernel
theorem dX11_tempersHeard_47 : decode cX11_tempersHeard 47 = .ok (.invokevirtual 416, 3) := by decide +kernel
theorem dX11_tempersHeard_50 : decode cX11_tempersHeard 50 = .ok (.ifCond .eq 10, 3) := by decide +kernel
theorem dX11_tempersHeard_53 : decode cX11_tempersHeard 53 = .ok (.iload_n 3, 1) := by decide +kernel
theorem dX11_tempersHeard_54 : decode cX11_tempersHeard 54 = .ok (.iconst 1, 1) := by decide +kernel
theorem dX11_tempersHeard_55 : decode cX11_tempersHeard 55 = .ok (.iload 4, 2) := by decide +kernel
theorem dX11_tempersHeard_57 : decode cX11_tempersHeard 57 = .ok (.ishl, 1) := by decide +kernel
theorem dX11_tempersHeard_58 : decode cX11_tempersHeard 58 = .ok (.ior, 1) := by decide +kernel
theorem dX11_tempersHeard_59 : decode cX11_tempersHeard 59 = .ok (.istore_n 3, 1) := by decide +kernel
theorem dX11_tempersHeard_60 : decode cX11_tempersHeard 60 = .ok (.iinc 4 1, 3) := by decide +kernel
theorem dX11_tempersHeard_63 : decode cX11_tempersHeard 63 = .ok (.goto (-58), 3) := by decide +kernel
theorem dX11_tempersHeard_66 : decode cX11_tempersHeard 66 = .ok (.iload_n 3, 1) := by decide +kernel
theorem dX11_tempersHeard_67 : decode cX11_tempersHeard 67 = .ok (.ireturn, 1) := by decide +kernel
theorem dX11_mostAlike_0 : decode cX11_mostAlike 0 = .ok (.aload_n 0, 1) := by decide +kernel
theorem dX11_mostAlike_1 : decode cX11_mostAlike 1 = .ok (.getfield 66, 3) := by decide +kernel
theorem dX11_mostAlike_4 : decode cX11_mostAlike 4 = .ok (.iconst 0, 1) := by decide +kernel
theorem dX11_mostAlike_5 : decode cX11_mostAlike 5 = .ok (.invokestatic 399, 3) := by decide +kernel
theorem dX11_mostAlike_8 : decode cX11_mostAlike 8 = .ok (.iconst 0, 1) := by decide +kernel
theorem dX11_mostAlike_9 : decode cX11_mostAlike 9 = .ok (.istore 4, 2) := by decide +kernel
theorem dX11_mostAlike_11 : decode cX11_mostAlike 11 = .ok (.iconst 0, 1) := by decide +kernel
theorem dX11_mostAlike_12 : decode cX11_mostAlike 12 = .ok (.istore 5, 2) := by decide +kernel
theorem dX11_mostAlike_14 : decode cX11_mostAlike 14 = .ok (.iload 5, 2) := by decide +kernel
theorem dX11_mostAlike_16 : decode cX11_mostAlike 16 = .ok (.bipush 9, 2) := by decide +kernel
theorem dX11_mostAlike_18 : decode cX11_mostAlike 18 = .ok (.if_icmp .gt 86, 3) := by decide +kernel
theorem dX11_mostAlike_21 : decode cX11_mostAlike 21 = .ok (.iload_n 3, 1) := by decide +kernel
theorem dX11_mostAlike_22 : decode cX11_mostAlike 22 = .ok (.iload 5, 2) := by decide +kernel
theorem dX11_mostAlike_24 : decode cX11_mostAlike 24 = .ok (.ishr, 1) := by decide +kernel
theorem dX11_mostAlike_25 : decode cX11_mostAlike 25 = .ok (.iconst 1, 1) := by decide +kernel
theorem dX11_mostAlike_26 : decode cX11_mostAlike 26 = .ok (.iand, 1) := by decide +kernel
theorem dX11_mostAlike_27 : decode cX11_mostAlike 27 = .ok (.ifCond .eq 71, 3) := by decide +kernel
theorem dX11_mostAlike_30 : decode cX11_mostAlike 30 = .ok (.aload_n 0, 1) := by decide +kernel
theorem dX11_mostAlike_31 : decode cX11_mostAlike 31 = .ok (.getfield 80, 3) := by decide +kernel
theorem dX11_mostAlike_34 : decode cX11_mostAlike 34 = .ok (.iload_n 1, 1) := by decide +kernel
theorem dX11_mostAlike_35 : decode cX11_mostAlike 35 = .ok (.iload 5, 2) := by decide +kernel
theorem dX11_mostAlike_37 : decode cX11_mostAlike 37 = .ok (.iload_n 2, 1) := by decide +kernel
theorem dX11_mostAlike_38 : decode cX11_mostAlike 38 = .ok (.invokevirtual 393, 3) := by decide +kernel
theorem dX11_mostAlike_41 : decode cX11_mostAlike 41 = .ok (.aload_n 0, 1) := by decide +kernel
theorem dX11_mostAlike_42 : decode cX11_mostAlike 42 = .ok (.getfield 89, 3) := by decide +kernel
theorem dX11_mostAlike_45 : decode cX11_mostAlike 45 = .ok (.aload_n 0, 1) := by decide +kernel
theorem dX11_mostAlike_46 : decode cX11_mostAlike 46 = .ok (.getfield 35, 3) := by decide +kernel
theorem dX11_mostAlike_49 : decode cX11_mostAlike 49 = .ok (.getfield 156, 3) := by decide +kernel
theorem dX11_mostAlike_52 : decode cX11_mostAlike 52 = .ok (.iload_n 1, 1) := by decide +kernel
theorem dX11_mostAlike_53 : decode cX11_mostAlike 53 = .ok (.iaload, 1) := by decide +kernel
theorem dX11_mostAlike_54 : decode cX11_mostAlike 54 = .ok (.invokevirtual 268, 3) := by decide +kernel
theorem dX11_mostAlike_57 : decode cX11_mostAlike 57 = .ok (.aload_n 0, 1) := by decide +kernel
theorem dX11_mostAlike_58 : decode cX11_mostAlike 58 = .ok (.getfield 66, 3) := by decide +kernel
theorem dX11_mostAlike_61 : decode cX11_mostAlike 61 = .ok (.aload_n 0, 1) := by decide +kernel
theorem dX11_mostAlike_62 : decode cX11_mostAlike 62 = .ok (.getfield 89, 3) := by decide +kernel
theorem dX11_mostAlike_65 : decode cX11_mostAlike 65 = .ok (.getfield 272, 3) := by decide +kernel
theorem dX11_mostAlike_68 : decode cX11_mostAlike 68 = .ok (.bipush 20, 2) := by decide +kernel
theorem dX11_mostAlike_70 : decode cX11_mostAlike 70 = .ok (.iadd, 1) := by decide +kernel
theorem dX11_mostAlike_71 : decode cX11_mostAlike 71 = .ok (.dup2, 1) := by decide +kernel
theorem dX11_mostAlike_72 : decode cX11_mostAlike 72 = .ok (.iaload, 1) := by decide +kernel
theorem dX11_mostAlike_73 : decode cX11_mostAlike 73 = .ok (.iconst 1, 1) := by decide +kernel
theorem dX11_mostAlike_74 : decode cX11_mostAlike 74 = .ok (.iadd, 1) := by decide +kernel
theorem dX11_mostAlike_75 : decode cX11_mostAlike 75 = .ok (.iastore, 1) := by decide +kernel
theorem dX11_mostAlike_76 : decode cX11_mostAlike 76 = .ok (.iload 4, 2) := by decide +kernel
theorem dX11_mostAlike_78 : decode cX11_mostAlike 78 = .ok (.aload_n 0, 1) := by decide +kernel
theorem dX11_mostAlike_79 : decode cX11_mostAlike 79 = .ok (.getfield 66, 3) := by decide +kernel
theorem dX11_mostAlike_82 : decode cX11_mostAlike 82 = .ok (.aload_n 0, 1) := by decide +kernel
theorem dX11_mostAlike_83 : decode cX11_mostAlike 83 = .ok (.getfield 89, 3) := by decide +kernel
theorem dX11_mostAlike_86 : decode cX11_mostAlike 86 = .ok (.getfield 272, 3) := by decide +kernel
theorem dX11_mostAlike_89 : decode cX11_mostAlike 89 = .ok (.bipush 20, 2) := by decide +kernel
theorem dX11_mostAlike_91 : decode cX11_mostAlike 91 = .ok (.iadd, 1) := by decide +kernel
theorem dX11_mostAlike_92 : decode cX11_mostAlike 92 = .ok (.iaload, 1) := by decide +kernel
theorem dX11_mostAlike_93 : decode cX11_mostAlike 93 = .ok (.invokestatic 315, 3) := by decide +kernel
theorem dX11_mostAlike_96 : decode cX11_mostAlike 96 = .ok (.istore 4, 2) := by decide +kernel
theorem dX11_mostAlike_98 : decode cX11_mostAlike 98 = .ok (.iinc 5 1, 3) := by decide +kernel
theorem dX11_mostAlike_101 : decode cX11_mostAlike 101 = .ok (.goto (-87), 3) := by decide +kernel
theorem dX11_mostAlike_104 : decode cX11_mostAlike 104 = .ok (.iload 4, 2) := by decide +kernel
theorem dX11_mostAlike_106 : decode cX11_mostAlike 106 = .ok (.ireturn, 1) := by decide +kernel
theorem dX11_commonDivisor_0 : decode cX11_commonDivisor 0 = .ok (.iconst 0, 1) := by decide +kernel
theorem dX11_commonDivisor_1 : decode cX11_commonDivisor 1 = .ok (.istore 4, 2) := by decide +kernel
theorem dX11_commonDivisor_3 : decode cX11_commonDivisor 3 = .ok (.iload 4, 2) := by decide +kernel
theorem dX11_commonDivisor_5 : decode cX11_commonDivisor 5 = .ok (.sipush 200, 3) := by decide +kernel
theorem dX11_commonDivisor_8 : decode cX11_commonDivisor 8 = .ok (.if_icmp .ge 25, 3) := by decide +kernel
theorem dX11_commonDivisor_11 : decode cX11_commonDivisor 11 = .ok (.lload_n 2, 1) := by decide +kernel
theorem dX11_commonDivisor_12 : decode cX11_commonDivisor 12 = .ok (.lconst 0, 1) := by decide +kernel
theorem dX11_commonDivisor_13 : decode cX11_commonDivisor 13 = .ok (.lcmp, 1) := by decide +kernel
theorem dX11_commonDivisor_14 : decode cX11_commonDivisor 14 = .ok (.ifCond .eq 19, 3) := by decide +kernel
theorem dX11_commonDivisor_17 : decode cX11_commonDivisor 17 = .ok (.lload_n 0, 1) := by decide +kernel
theorem dX11_commonDivisor_18 : decode cX11_commonDivisor 18 = .ok (.lload_n 2, 1) := by decide +kernel
theorem dX11_commonDivisor_19 : decode cX11_commonDivisor 19 = .ok (.lrem, 1) := by decide +kernel
theorem dX11_commonDivisor_20 : decode cX11_commonDivisor 20 = .ok (.lstore 5, 2) := by decide +kernel
theorem dX11_commonDivisor_22 : decode cX11_commonDivisor 22 = .ok (.lload_n 2, 1) := by decide +kernel
theorem dX11_commonDivisor_23 : decode cX11_commonDivisor 23 = .ok (.lstore_n 0, 1) := by decide +kernel
theorem dX11_commonDivisor_24 : decode cX11_commonDivisor 24 = .ok (.lload 5, 2) := by decide +kernel
theorem dX11_commonDivisor_26 : decode cX11_commonDivisor 26 = .ok (.lstore_n 2, 1) := by decide +kernel
theorem dX11_commonDivisor_27 : decode cX11_commonDivisor 27 = .ok (.iinc 4 1, 3) := by decide +kernel
theorem dX11_commonDivisor_30 : decode cX11_commonDivisor 30 = .ok (.goto (-27), 3) := by decide +kernel
theorem dX11_commonDivisor_33 : decode cX11_commonDivisor 33 = .ok (.lload_n 0, 1) := by decide +kernel
theorem dX11_commonDivisor_34 : decode cX11_commonDivisor 34 = .ok (.lreturn, 1) := by decide +kernel
theorem dJ6_bitCount_0f7a4_0 : decode cJ6_bitCount_0f7a4 0 = .ok (.iload_n 0, 1) := by decide +kernel
theorem dJ6_bitCount_0f7a4_1 : decode cJ6_bitCount_0f7a4 1 = .ok (.iload_n 0, 1) := by decide +kernel
theorem dJ6_bitCount_0f7a4_2 : decode cJ6_bitCount_0f7a4 2 = .ok (.iconst 1, 1) := by decide +kernel
theorem dJ6_bitCount_0f7a4_3 : decode cJ6_bitCount_0f7a4 3 = .ok (.iushr, 1) := by decide +kernel
theorem dJ6_bitCount_0f7a4_4 : decode cJ6_bitCount_0f7a4 4 = .ok (.ldc_w 265, 3) := by decide +kernel
theorem dJ6_bitCount_0f7a4_7 : decode cJ6_bitCount_0f7a4 7 = .ok (.iand, 1) := by decide +kernel
theorem dJ6_bitCount_0f7a4_8 : decode cJ6_bitCount_0f7a4 8 = .ok (.isub, 1) := by decide +kernel
theorem dJ6_bitCount_0f7a4_9 : decode cJ6_bitCount_0f7a4 9 = .ok (.istore_n 0, 1) := by decide +kernel
theorem dJ6_bitCount_0f7a4_10 : decode cJ6_bitCount_0f7a4 10 = .ok (.iload_n 0, 1) := by decide +kernel
theorem dJ6_bitCount_0f7a4_11 : decode cJ6_bitCount_0f7a4 11 = .ok (.ldc_w 266, 3) := by decide +kernel
theorem dJ6_bitCount_0f7a4_14 : decode cJ6_bitCount_0f7a4 14 = .ok (.iand, 1) := by decide +kernel
theorem dJ6_bitCount_0f7a4_15 : decode cJ6_bitCount_0f7a4 15 = .ok (.iload_n 0, 1) := by decide +kernel
theorem dJ6_bitCount_0f7a4_16 : decode cJ6_bitCount_0f7a4 16 = .ok (.iconst 2, 1) := by decide +kernel
theorem dJ6_bitCount_0f7a4_17 : decode cJ6_bitCount_0f7a4 17 = .ok (.iushr, 1) := by decide +kernel
theorem dJ6_bitCount_0f7a4_18 : decode cJ6_bitCount_0f7a4 18 = .ok (.ldc_w 266, 3) := by decide +kernel
theorem dJ6_bitCount_0f7a4_21 : decode cJ6_bitCount_0f7a4 21 = .ok (.iand, 1) := by decide +kernel
theorem dJ6_bitCount_0f7a4_22 : decode cJ6_bitCount_0f7a4 22 = .ok (.iadd, 1) := by decide +kernel
theorem dJ6_bitCount_0f7a4_23 : decode cJ6_bitCount_0f7a4 23 = .ok (.istore_n 0, 1) := by decide +kernel
theorem dJ6_bitCount_0f7a4_24 : decode cJ6_bitCount_0f7a4 24 = .ok (.iload_n 0, 1) := by decide +kernel
theorem dJ6_bitCount_0f7a4_25 : decode cJ6_bitCount_0f7a4 25 = .ok (.iload_n 0, 1) := by decide +kernel
theorem dJ6_bitCount_0f7a4_26 : decode cJ6_bitCount_0f7a4 26 = .ok (.iconst 4, 1) := by decide +kernel
theorem dJ6_bitCount_0f7a4_27 : decode cJ6_bitCount_0f7a4 27 = .ok (.iushr, 1) := by decide +kernel
theorem dJ6_bitCount_0f7a4_28 : decode cJ6_bitCount_0f7a4 28 = .ok (.iadd, 1) := by decide +kernel
theorem dJ6_bitCount_0f7a4_29 : decode cJ6_bitCount_0f7a4 29 = .ok (.ldc_w 267, 3) := by decide +kernel
theorem dJ6_bitCount_0f7a4_32 : decode cJ6_bitCount_0f7a4 32 = .ok (.iand, 1) := by decide +kernel
theorem dJ6_bitCount_0f7a4_33 : decode cJ6_bitCount_0f7a4 33 = .ok (.istore_n 0, 1) := by decide +kernel
theorem dJ6_bitCount_0f7a4_34 : decode cJ6_bitCount_0f7a4 34 = .ok (.iload_n 0, 1) := by decide +kernel
theorem dJ6_bitCount_0f7a4_35 : decode cJ6_bitCount_0f7a4 35 = .ok (.iload_n 0, 1) := by decide +kernel
theorem dJ6_bitCount_0f7a4_36 : decode cJ6_bitCount_0f7a4 36 = .ok (.bipush 8, 2) := by decide +kernel
theorem dJ6_bitCount_0f7a4_38 : decode cJ6_bitCount_0f7a4 38 = .ok (.iushr, 1) := by decide +kernel
theorem dJ6_bitCount_0f7a4_39 : decode cJ6_bitCount_0f7a4 39 = .ok (.iadd, 1) := by decide +kernel
theorem dJ6_bitCount_0f7a4_40 : decode cJ6_bitCount_0f7a4 40 = .ok (.istore_n 0, 1) := by decide +kernel
theorem dJ6_bitCount_0f7a4_41 : decode cJ6_bitCount_0f7a4 41 = .ok (.iload_n 0, 1) := by decide +kernel
theorem dJ6_bitCount_0f7a4_42 : decode cJ6_bitCount_0f7a4 42 = .ok (.iload_n 0, 1) := by decide +kernel
theorem dJ6_bitCount_0f7a4_43 : decode cJ6_bitCount_0f7a4 43 = .ok (.bipush 16, 2) := by decide +kernel
theorem dJ6_bitCount_0f7a4_45 : decode cJ6_bitCount_0f7a4 45 = .ok (.iushr, 1) := by decide +kernel
theorem dJ6_bitCount_0f7a4_46 : decode cJ6_bitCount_0f7a4 46 = .ok (.iadd, 1) := by decide +kernel
theorem dJ6_bitCount_0f7a4_47 : decode cJ6_bitCount_0f7a4 47 = .ok (.istore_n 0, 1) := by decide +kernel
theorem dJ6_bitCount_0f7a4_48 : decode cJ6_bitCount_0f7a4 48 = .ok (.iload_n 0, 1) := by decide +kernel
theorem dJ6_bitCount_0f7a4_49 : decode cJ6_bitCount_0f7a4 49 = .ok (.bipush 63, 2) := by decide +kernel
theorem dJ6_bitCount_0f7a4_51 : decode cJ6_bitCount_0f7a4 51 = .ok (.iand, 1) := by decide +kernel
theorem dJ6_bitCount_0f7a4_52 : decode cJ6_bitCount_0f7a4 52 = .ok (.ireturn, 1) := by decide +kernel
theorem dJ9_max_7cf53_0 : decode cJ9_max_7cf53 0 = .ok (.iload_n 0, 1) := by decide +kernel
theorem dJ9_max_7cf53_1 : decode cJ9_max_7cf53 1 = .ok (.iload_n 1, 1) := by decide +kernel
theorem dJ9_max_7cf53_2 : decode cJ9_max_7cf53 2 = .ok (.if_icmp .lt 7, 3) := by decide +kernel
theorem dJ9_max_7cf53_5 : decode cJ9_max_7cf53 5 = .ok (.iload_n 0, 1) := by decide +kernel
theorem dJ9_max_7cf53_6 : decode cJ9_max_7cf53 6 = .ok (.goto 4, 3) := by decide +kernel
theorem dJ9_max_7cf53_9 : decode cJ9_max_7cf53 9 = .ok (.iload_n 1, 1) := by decide +kernel
theorem dJ9_max_7cf53_10 : decode cJ9_max_7cf53 10 = .ok (.ireturn, 1) := by decide +kernel
theorem dJ9_min_7cf53_0 : decode cJ9_min_7cf53 0 = .ok (.iload_n 0, 1) := by decide +kernel
theorem dJ9_min_7cf53_1 : decode cJ9_min_7cf53 1 = .ok (.iload_n 1, 1) := by decide +kernel
theorem dJ9_min_7cf53_2 : decode cJ9_min_7cf53 2 = .ok (.if_icmp .gt 7, 3) := by decide +kernel
theorem dJ9_min_7cf53_5 : decode cJ9_min_7cf53 5 = .ok (.iload_n 0, 1) := by decide +kernel
theorem dJ9_min_7cf53_6 : decode cJ9_min_7cf53 6 = .ok (.goto 4, 3) := by decide +kernel
theorem dJ9_min_7cf53_9 : decode cJ9_min_7cf53 9 = .ok (.iload_n 1, 1) := by decide +kernel
theorem dJ9_min_7cf53_10 : decode cJ9_min_7cf53 10 = .ok (.ireturn, 1) := by decide +kernel
theorem dJ0_length_8abf5_0 : decode cJ0_length_8abf5 0 = .ok (.aload_n 0, 1) := by decide +kernel
theorem dJ0_length_8abf5_1 : decode cJ0_length_8abf5 1 = .ok (.getfield 9, 3) := by decide +kernel
theorem dJ0_length_8abf5_4 : decode cJ0_length_8abf5 4 = .ok (.arraylength, 1) := by decide +kernel
theorem dJ0_length_8abf5_5 : decode cJ0_length_8abf5 5 = .ok (.aload_n 0, 1) := by decide +kernel
theorem dJ0_length_8abf5_6 : decode cJ0_length_8abf5 6 = .ok (.invokevirtual 335, 3) := by decide +kernel
theorem dJ0_length_8abf5_9 : decode cJ0_length_8abf5 9 = .ok (.ishr, 1) := by decide +kernel
theorem dJ0_length_8abf5_10 : decode cJ0_length_8abf5 10 = .ok (.ireturn, 1) := by decide +kernel
theorem dJ0_charAt_5068e_0 : decode cJ0_charAt_5068e 0 = .ok (.aload_n 0, 1) := by decide +kernel
theorem dJ0_charAt_5068e_1 : decode cJ0_charAt_5068e 1 = .ok (.invokevirtual 492, 3) := by decide +kernel
theorem dJ0_charAt_5068e_4 : decode cJ0_charAt_5068e 4 = .ok (.ifCond .eq 12, 3) := by decide +kernel
theorem dJ0_charAt_5068e_7 : decode cJ0_charAt_5068e 7 = .ok (.aload_n 0, 1) := by decide +kernel
theorem dJ0_charAt_5068e_8 : decode cJ0_charAt_5068e 8 = .ok (.getfield 9, 3) := by decide +kernel
theorem dJ0_charAt_5068e_11 : decode cJ0_charAt_5068e 11 = .ok (.iload_n 1, 1) := by decide +kernel
theorem dJ0_charAt_5068e_12 : decode cJ0_charAt_5068e 12 = .ok (.invokestatic 495, 3) := by decide +kernel
theorem dJ0_charAt_5068e_15 : decode cJ0_charAt_5068e 15 = .ok (.ireturn, 1) := by decide +kernel
theorem dJ0_charAt_5068e_16 : decode cJ0_charAt_5068e 16 = .ok (.aload_n 0, 1) := by decide +kernel
theorem dJ0_charAt_5068e_17 : decode cJ0_charAt_5068e 17 = .ok (.getfield 9, 3) := by decide +kernel
theorem dJ0_charAt_5068e_20 : decode cJ0_charAt_5068e 20 = .ok (.iload_n 1, 1) := by decide +kernel
theorem dJ0_charAt_5068e_21 : decode cJ0_charAt_5068e 21 = .ok (.invokestatic 498, 3) := by decide +kernel
theorem dJ0_charAt_5068e_24 : decode cJ0_charAt_5068e 24 = .ok (.ireturn, 1) := by decide +kernel
theorem dJ0_coder_7d493_0 : decode cJ0_coder_7d493 0 = .ok (.getstatic 38, 3) := by decide +kernel
theorem dJ0_coder_7d493_3 : decode cJ0_coder_7d493 3 = .ok (.ifCond .eq 10, 3) := by decide +kernel
theorem dJ0_coder_7d493_6 : decode cJ0_coder_7d493 6 = .ok (.aload_n 0, 1) := by decide +kernel
theorem dJ0_coder_7d493_7 : decode cJ0_coder_7d493 7 = .ok (.getfield 15, 3) := by decide +kernel
theorem dJ0_coder_7d493_10 : decode cJ0_coder_7d493 10 = .ok (.goto 4, 3) := by decide +kernel
theorem dJ0_coder_7d493_13 : decode cJ0_coder_7d493 13 = .ok (.iconst 1, 1) := by decide +kernel
theorem dJ0_coder_7d493_14 : decode cJ0_coder_7d493 14 = .ok (.ireturn, 1) := by decide +kernel
theorem dJ0_isLatin1_aae02_0 : decode cJ0_isLatin1_aae02 0 = .ok (.getstatic 38, 3) := by decide +kernel
theorem dJ0_isLatin1_aae02_3 : decode cJ0_isLatin1_aae02 3 = .ok (.ifCond .eq 14, 3) := by decide +kernel
theorem dJ0_isLatin1_aae02_6 : decode cJ0_isLatin1_aae02 6 = .ok (.aload_n 0, 1) := by decide +kernel
theorem dJ0_isLatin1_aae02_7 : decode cJ0_isLatin1_aae02 7 = .ok (.getfield 15, 3) := by decide +kernel
theorem dJ0_isLatin1_aae02_10 : decode cJ0_isLatin1_aae02 10 = .ok (.ifCond .ne 7, 3) := by decide +kernel
theorem dJ0_isLatin1_aae02_13 : decode cJ0_isLatin1_aae02 13 = .ok (.iconst 1, 1) := by decide +kernel
theorem dJ0_isLatin1_aae02_14 : decode cJ0_isLatin1_aae02 14 = .ok (.goto 4, 3) := by decide +kernel
theorem dJ0_isLatin1_aae02_17 : decode cJ0_isLatin1_aae02 17 = .ok (.iconst 0, 1) := by decide +kernel
theorem dJ0_isLatin1_aae02_18 : decode cJ0_isLatin1_aae02 18 = .ok (.ireturn, 1) := by decide +kernel
theorem dJ0_checkIndex_df160_0 : decode cJ0_checkIndex_df160 0 = .ok (.iload_n 0, 1) := by decide +kernel
theorem dJ0_checkIndex_df160_1 : decode cJ0_checkIndex_df160 1 = .ok (.iload_n 1, 1) := by decide +kernel
theorem dJ0_checkIndex_df160_2 : decode cJ0_checkIndex_df160 2 = .ok (.getstatic 1053, 3) := by decide +kernel
theorem dJ0_checkIndex_df160_5 : decode cJ0_checkIndex_df160 5 = .ok (.invokestatic 1059, 3) := by decide +kernel
theorem dJ0_checkIndex_df160_8 : decode cJ0_checkIndex_df160 8 = .ok (.pop, 1) := by decide +kernel
theorem dJ0_checkIndex_df160_9 : decode cJ0_checkIndex_df160 9 = .ok (.return_, 1) := by decide +kernel
theorem dJ1_charAt_3b067_0 : decode cJ1_charAt_3b067 0 = .ok (.iload_n 1, 1) := by decide +kernel
theorem dJ1_charAt_3b067_1 : decode cJ1_charAt_3b067 1 = .ok (.aload_n 0, 1) := by decide +kernel
theorem dJ1_charAt_3b067_2 : decode cJ1_charAt_3b067 2 = .ok (.arraylength, 1) := by decide +kernel
theorem dJ1_charAt_3b067_3 : decode cJ1_charAt_3b067 3 = .ok (.invokestatic 9, 3) := by decide +kernel
theorem dJ1_charAt_3b067_6 : decode cJ1_charAt_3b067 6 = .ok (.aload_n 0, 1) := by decide +kernel
theorem dJ1_charAt_3b067_7 : decode cJ1_charAt_3b067 7 = .ok (.iload_n 1, 1) := by decide +kernel
theorem dJ1_charAt_3b067_8 : decode cJ1_charAt_3b067 8 = .ok (.baload, 1) := by decide +kernel
theorem dJ1_charAt_3b067_9 : decode cJ1_charAt_3b067 9 = .ok (.sipush 255, 3) := by decide +kernel
theorem dJ1_charAt_3b067_12 : decode cJ1_charAt_3b067 12 = .ok (.iand, 1) := by decide +kernel
theorem dJ1_charAt_3b067_13 : decode cJ1_charAt_3b067 13 = .ok (.i2c, 1) := by decide +kernel
theorem dJ1_charAt_3b067_14 : decode cJ1_charAt_3b067 14 = .ok (.ireturn, 1) := by decide +kernel
theorem dJ7_fill_d0a16_0 : decode cJ7_fill_d0a16 0 = .ok (.iconst 0, 1) := by decide +kernel
theorem dJ7_fill_d0a16_1 : decode cJ7_fill_d0a16 1 = .ok (.istore_n 3, 1) := by decide +kernel
theorem dJ7_fill_d0a16_2 : decode cJ7_fill_d0a16 2 = .ok (.aload_n 0, 1) := by decide +kernel
theorem dJ7_fill_d0a16_3 : decode cJ7_fill_d0a16 3 = .ok (.arraylength, 1) := by decide +kernel
theorem dJ7_fill_d0a16_4 : decode cJ7_fill_d0a16 4 = .ok (.istore 4, 2) := by decide +kernel
theorem dJ7_fill_d0a16_6 : decode cJ7_fill_d0a16 6 = .ok (.iload_n 3, 1) := by decide +kernel
theorem dJ7_fill_d0a16_7 : decode cJ7_fill_d0a16 7 = .ok (.iload 4, 2) := by decide +kernel
theorem dJ7_fill_d0a16_9 : decode cJ7_fill_d0a16 9 = .ok (.if_icmp .ge 13, 3) := by decide +kernel
theorem dJ7_fill_d0a16_12 : decode cJ7_fill_d0a16 12 = .ok (.aload_n 0, 1) := by decide +kernel
theorem dJ7_fill_d0a16_13 : decode cJ7_fill_d0a16 13 = .ok (.iload_n 3, 1) := by decide +kernel
theorem dJ7_fill_d0a16_14 : decode cJ7_fill_d0a16 14 = .ok (.lload_n 1, 1) := by decide +kernel
theorem dJ7_fill_d0a16_15 : decode cJ7_fill_d0a16 15 = .ok (.lastore, 1) := by decide +kernel
theorem dJ7_fill_d0a16_16 : decode cJ7_fill_d0a16 16 = .ok (.iinc 3 1, 3) := by decide +kernel
theorem dJ7_fill_d0a16_19 : decode cJ7_fill_d0a16 19 = .ok (.goto (-13), 3) := by decide +kernel
theorem dJ7_fill_d0a16_22 : decode cJ7_fill_d0a16 22 = .ok (.return_, 1) := by decide +kernel
theorem dJ7_fill_53178_0 : decode cJ7_fill_53178 0 = .ok (.iconst 0, 1) := by decide +kernel
theorem dJ7_fill_53178_1 : decode cJ7_fill_53178 1 = .ok (.istore_n 2, 1) := by decide +kernel
theorem dJ7_fill_53178_2 : decode cJ7_fill_53178 2 = .ok (.aload_n 0, 1) := by decide +kernel
theorem dJ7_fill_53178_3 : decode cJ7_fill_53178 3 = .ok (.arraylength, 1) := by decide +kernel
theorem dJ7_fill_53178_4 : decode cJ7_fill_53178 4 = .ok (.istore_n 3, 1) := by decide +kernel
theorem dJ7_fill_53178_5 : decode cJ7_fill_53178 5 = .ok (.iload_n 2, 1) := by decide +kernel
theorem dJ7_fill_53178_6 : decode cJ7_fill_53178 6 = .ok (.iload_n 3, 1) := by decide +kernel
theorem dJ7_fill_53178_7 : decode cJ7_fill_53178 7 = .ok (.if_icmp .ge 13, 3) := by decide +kernel
theorem dJ7_fill_53178_10 : decode cJ7_fill_53178 10 = .ok (.aload_n 0, 1) := by decide +kernel
theorem dJ7_fill_53178_11 : decode cJ7_fill_53178 11 = .ok (.iload_n 2, 1) := by decide +kernel
theorem dJ7_fill_53178_12 : decode cJ7_fill_53178 12 = .ok (.iload_n 1, 1) := by decide +kernel
theorem dJ7_fill_53178_13 : decode cJ7_fill_53178 13 = .ok (.iastore, 1) := by decide +kernel
theorem dJ7_fill_53178_14 : decode cJ7_fill_53178 14 = .ok (.iinc 2 1, 3) := by decide +kernel
theorem dJ7_fill_53178_17 : decode cJ7_fill_53178 17 = .ok (.goto (-12), 3) := by decide +kernel
theorem dJ7_fill_53178_20 : decode cJ7_fill_53178 20 = .ok (.return_, 1) := by decide +kernel
theorem dJ3_checkIndex_8e157_0 : decode cJ3_checkIndex_8e157 0 = .ok (.iload_n 0, 1) := by decide +kernel
theorem dJ3_checkIndex_8e157_1 : decode cJ3_checkIndex_8e157 1 = .ok (.ifCond .lt 8, 3) := by decide +kernel
theorem dJ3_checkIndex_8e157_4 : decode cJ3_checkIndex_8e157 4 = .ok (.iload_n 0, 1) := by decide +kernel
theorem dJ3_checkIndex_8e157_5 : decode cJ3_checkIndex_8e157 5 = .ok (.iload_n 1, 1) := by decide +kernel
theorem dJ3_checkIndex_8e157_6 : decode cJ3_checkIndex_8e157 6 = .ok (.if_icmp .lt 10, 3) := by decide +kernel
theorem dJ3_checkIndex_8e157_9 : decode cJ3_checkIndex_8e157 9 = .ok (.aload_n 2, 1) := by decide +kernel
theorem dJ3_checkIndex_8e157_10 : decode cJ3_checkIndex_8e157 10 = .ok (.iload_n 0, 1) := by decide +kernel
theorem dJ3_checkIndex_8e157_11 : decode cJ3_checkIndex_8e157 11 = .ok (.iload_n 1, 1) := by decide +kernel
theorem dJ3_checkIndex_8e157_12 : decode cJ3_checkIndex_8e157 12 = .ok (.invokestatic 95, 3) := by decide +kernel
theorem dJ3_checkIndex_8e157_15 : decode cJ3_checkIndex_8e157 15 = .ok (.athrow, 1) := by decide +kernel
theorem dJ3_checkIndex_8e157_16 : decode cJ3_checkIndex_8e157 16 = .ok (.iload_n 0, 1) := by decide +kernel
theorem dJ3_checkIndex_8e157_17 : decode cJ3_checkIndex_8e157 17 = .ok (.ireturn, 1) := by decide +kernel

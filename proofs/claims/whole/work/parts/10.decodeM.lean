theorem dX11_in_0 : decode cX11_in 0 = .ok (.lload_n 0, 1) := by decide +kernel
theorem dX11_in_1 : decode cX11_in 1 = .ok (.lload_n 2, 1) := by decide +kernel
theorem dX11_in_2 : decode cX11_in 2 = .ok (.lcmp, 1) := by decide +kernel
theorem dX11_in_3 : decode cX11_in 3 = .ok (.ifCond .lt 14, 3) := by decide +kernel
theorem dX11_in_6 : decode cX11_in 6 = .ok (.lload_n 0, 1) := by decide +kernel
theorem dX11_in_7 : decode cX11_in 7 = .ok (.lload 4, 2) := by decide +kernel
theorem dX11_in_9 : decode cX11_in 9 = .ok (.lcmp, 1) := by decide +kernel
theorem dX11_in_10 : decode cX11_in 10 = .ok (.ifCond .gt 7, 3) := by decide +kernel
theorem dX11_in_13 : decode cX11_in 13 = .ok (.iconst 1, 1) := by decide +kernel
theorem dX11_in_14 : decode cX11_in 14 = .ok (.goto 4, 3) := by decide +kernel
theorem dX11_in_17 : decode cX11_in 17 = .ok (.iconst 0, 1) := by decide +kernel
theorem dX11_in_18 : decode cX11_in 18 = .ok (.ireturn, 1) := by decide +kernel
theorem dX11_init_0 : decode cX11_init 0 = .ok (.aload_n 0, 1) := by decide +kernel
theorem dX11_init_1 : decode cX11_init 1 = .ok (.invokespecial 1, 3) := by decide +kernel
theorem dX11_init_4 : decode cX11_init 4 = .ok (.aload_n 0, 1) := by decide +kernel
theorem dX11_init_5 : decode cX11_init 5 = .ok (.sipush 750, 3) := by decide +kernel
theorem dX11_init_8 : decode cX11_init 8 = .ok (.newarray .int, 2) := by decide +kernel
theorem dX11_init_10 : decode cX11_init 10 = .ok (.putfield 7, 3) := by decide +kernel
theorem dX11_init_13 : decode cX11_init 13 = .ok (.aload_n 0, 1) := by decide +kernel
theorem dX11_init_14 : decode cX11_init 14 = .ok (.bipush 15, 2) := by decide +kernel
theorem dX11_init_16 : decode cX11_init 16 = .ok (.newarray .int, 2) := by decide +kernel
theorem dX11_init_18 : decode cX11_init 18 = .ok (.putfield 13, 3) := by decide +kernel
theorem dX11_init_21 : decode cX11_init 21 = .ok (.aload_n 0, 1) := by decide +kernel
theorem dX11_init_22 : decode cX11_init 22 = .ok (.bipush 6, 2) := by decide +kernel
theorem dX11_init_24 : decode cX11_init 24 = .ok (.newarray .int, 2) := by decide +kernel
theorem dX11_init_26 : decode cX11_init 26 = .ok (.putfield 16, 3) := by decide +kernel
theorem dX11_init_29 : decode cX11_init 29 = .ok (.aload_n 0, 1) := by decide +kernel
theorem dX11_init_30 : decode cX11_init 30 = .ok (.bipush 8, 2) := by decide +kernel
theorem dX11_init_32 : decode cX11_init 32 = .ok (.newarray .int, 2) := by decide +kernel
theorem dX11_init_34 : decode cX11_init 34 = .ok (.putfield 19, 3) := by decide +kernel
theorem dX11_init_37 : decode cX11_init 37 = .ok (.aload_n 0, 1) := by decide +kernel
theorem dX11_init_38 : decode cX11_init 38 = .ok (.bipush 8, 2) := by decide +kernel
theorem dX11_init_40 : decode cX11_init 40 = .ok (.newarray .int, 2) := by decide +kernel
theorem dX11_init_42 : decode cX11_init 42 = .ok (.putfield 22, 3) := by decide +kernel
theorem dX11_init_45 : decode cX11_init 45 = .ok (.aload_n 0, 1) := by decide +kernel
theorem dX11_init_46 : decode cX11_init 46 = .ok (.bipush 6, 2) := by decide +kernel
theorem dX11_init_48 : decode cX11_init 48 = .ok (.newarray .int, 2) := by decide +kernel
theorem dX11_init_50 : decode cX11_init 50 = .ok (.putfield 25, 3) := by decide +kernel
theorem dX11_init_53 : decode cX11_init 53 = .ok (.aload_n 0, 1) := by decide +kernel
theorem dX11_init_54 : decode cX11_init 54 = .ok (.bipush 8, 2) := by decide +kernel
theorem dX11_init_56 : decode cX11_init 56 = .ok (.newarray .int, 2) := by decide +kernel
theorem dX11_init_58 : decode cX11_init 58 = .ok (.putfield 28, 3) := by decide +kernel
theorem dX11_init_61 : decode cX11_init 61 = .ok (.aload_n 0, 1) := by decide +kernel
theorem dX11_init_62 : decode cX11_init 62 = .ok (.bipush 8, 2) := by decide +kernel
theorem dX11_init_64 : decode cX11_init 64 = .ok (.newarray .int, 2) := by decide +kernel
theorem dX11_init_66 : decode cX11_init 66 = .ok (.putfield 31, 3) := by decide +kernel
theorem dX11_init_69 : decode cX11_init 69 = .ok (.aload_n 0, 1) := by decide +kernel
theorem dX11_init_70 : decode cX11_init 70 = .ok (.bipush 30, 2) := by decide +kernel
theorem dX11_init_72 : decode cX11_init 72 = .ok (.newarray .int, 2) := by decide +kernel
theorem dX11_init_74 : decode cX11_init 74 = .ok (.putfield 34, 3) := by decide +kernel
theorem dX11_init_77 : decode cX11_init 77 = .ok (.aload_n 0, 1) := by decide +kernel
theorem dX11_init_78 : decode cX11_init 78 = .ok (.bipush 30, 2) := by decide +kernel
theorem dX11_init_80 : decode cX11_init 80 = .ok (.newarray .int, 2) := by decide +kernel
theorem dX11_init_82 : decode cX11_init 82 = .ok (.putfield 37, 3) := by decide +kernel
theorem dX11_init_85 : decode cX11_init 85 = .ok (.aload_n 0, 1) := by decide +kernel
theorem dX11_init_86 : decode cX11_init 86 = .ok (.bipush 30, 2) := by decide +kernel
theorem dX11_init_88 : decode cX11_init 88 = .ok (.newarray .int, 2) := by decide +kernel
theorem dX11_init_90 : decode cX11_init 90 = .ok (.putfield 40, 3) := by decide +kernel
theorem dX11_init_93 : decode cX11_init 93 = .ok (.aload_n 0, 1) := by decide +kernel
theorem dX11_init_94 : decode cX11_init 94 = .ok (.bipush 30, 2) := by decide +kernel
theorem dX11_init_96 : decode cX11_init 96 = .ok (.newarray .int, 2) := by decide +kernel
theorem dX11_init_98 : decode cX11_init 98 = .ok (.putfield 43, 3) := by decide +kernel
theorem dX11_init_101 : decode cX11_init 101 = .ok (.aload_n 0, 1) := by decide +kernel
theorem dX11_init_102 : decode cX11_init 102 = .ok (.sipush 240, 3) := by decide +kernel
theorem dX11_init_105 : decode cX11_init 105 = .ok (.newarray .int, 2) := by decide +kernel
theorem dX11_init_107 : decode cX11_init 107 = .ok (.putfield 46, 3) := by decide +kernel
theorem dX11_init_110 : decode cX11_init 110 = .ok (.aload_n 0, 1) := by decide +kernel
theorem dX11_init_111 : decode cX11_init 111 = .ok (.iconst 4, 1) := by decide +kernel
theorem dX11_init_112 : decode cX11_init 112 = .ok (.newarray .int, 2) := by decide +kernel
theorem dX11_init_114 : decode cX11_init 114 = .ok (.putfield 49, 3) := by decide +kernel
theorem dX11_init_117 : decode cX11_init 117 = .ok (.aload_n 0, 1) := by decide +kernel
theorem dX11_init_118 : decode cX11_init 118 = .ok (.bipush 81, 2) := by decide +kernel
theorem dX11_init_120 : decode cX11_init 120 = .ok (.newarray .int, 2) := by decide +kernel
theorem dX11_init_122 : decode cX11_init 122 = .ok (.putfield 52, 3) := by decide +kernel
theorem dX11_init_125 : decode cX11_init 125 = .ok (.aload_n 0, 1) := by decide +kernel
theorem dX11_init_126 : decode cX11_init 126 = .ok (.bipush 40, 2) := by decide +kernel
theorem dX11_init_128 : decode cX11_init 128 = .ok (.newarray .int, 2) := by decide +kernel
theorem dX11_init_130 : decode cX11_init 130 = .ok (.putfield 55, 3) := by decide +kernel
theorem dX11_init_133 : decode cX11_init 133 = .ok (.aload_n 0, 1) := by decide +kernel
theorem dX11_init_134 : decode cX11_init 134 = .ok (.bipush 40, 2) := by decide +kernel
theorem dX11_init_136 : decode cX11_init 136 = .ok (.newarray .int, 2) := by decide +kernel
theorem dX11_init_138 : decode cX11_init 138 = .ok (.putfield 58, 3) := by decide +kernel
theorem dX11_init_141 : decode cX11_init 141 = .ok (.aload_n 0, 1) := by decide +kernel
theorem dX11_init_142 : decode cX11_init 142 = .ok (.bipush 40, 2) := by decide +kernel
theorem dX11_init_144 : decode cX11_init 144 = .ok (.newarray .int, 2) := by decide +kernel
theorem dX11_init_146 : decode cX11_init 146 = .ok (.putfield 61, 3) := by decide +kernel
theorem dX11_init_149 : decode cX11_init 149 = .ok (.aload_n 0, 1) := by decide +kernel
theorem dX11_init_150 : decode cX11_init 150 = .ok (.sipush 256, 3) := by decide +kernel
theorem dX11_init_153 : decode cX11_init 153 = .ok (.newarray .int, 2) := by decide +kernel
theorem dX11_init_155 : decode cX11_init 155 = .ok (.putfield 64, 3) := by decide +kernel
theorem dX11_init_158 : decode cX11_init 158 = .ok (.aload_n 0, 1) := by decide +kernel
theorem dX11_init_159 : decode cX11_init 159 = .ok (.bipush 6, 2) := by decide +kernel
theorem dX11_init_161 : decode cX11_init 161 = .ok (.newarray .int, 2) := by decide +kernel
theorem dX11_init_163 : decode cX11_init 163 = .ok (.putfield 67, 3) := by decide +kernel
theorem dX11_init_166 : decode cX11_init 166 = .ok (.aload_n 0, 1) := by decide +kernel
theorem dX11_init_167 : decode cX11_init 167 = .ok (.bipush 6, 2) := by decide +kernel
theorem dX11_init_169 : decode cX11_init 169 = .ok (.newarray .int, 2) := by decide +kernel
theorem dX11_init_171 : decode cX11_init 171 = .ok (.putfield 70, 3) := by decide +kernel
theorem dX11_init_174 : decode cX11_init 174 = .ok (.aload_n 0, 1) := by decide +kernel
theorem dX11_init_175 : decode cX11_init 175 = .ok (.bipush 6, 2) := by decide +kernel
theorem dX11_init_177 : decode cX11_init 177 = .ok (.newarray .int, 2) := by decide +kernel
theorem dX11_init_179 : decode cX11_init 179 = .ok (.putfield 73, 3) := by decide +kernel
theorem dX11_init_182 : decode cX11_init 182 = .ok (.aload_n 0, 1) := by decide +kernel
theorem dX11_init_183 : decode cX11_init 183 = .ok (.bipush 6, 2) := by decide +kernel
theorem dX11_init_185 : decode cX11_init 185 = .ok (.newarray .int, 2) := by decide +kernel
theorem dX11_init_187 : decode cX11_init 187 = .ok (.putfield 76, 3) := by decide +kernel
theorem dX11_init_190 : decode cX11_init 190 = .ok (.aload_n 0, 1) := by decide +kernel
theorem dX11_init_191 : decode cX11_init 191 = .ok (.bipush 6, 2) := by decide +kernel
theorem dX11_init_193 : decode cX11_init 193 = .ok (.newarray .int, 2) := by decide +kernel
theorem dX11_init_195 : decode cX11_init 195 = .ok (.putfield 79, 3) := by decide +kernel
theorem dX11_init_198 : decode cX11_init 198 = .ok (.aload_n 0, 1) := by decide +kernel
theorem dX11_init_199 : decode cX11_init 199 = .ok (.bipush 24, 2) := by decide +kernel
theorem dX11_init_201 : decode cX11_init 201 = .ok (.newarray .int, 2) := by decide +kernel
theorem dX11_init_203 : decode cX11_init 203 = .ok (.putfield 82, 3) := by decide +kernel
theorem dX11_init_206 : decode cX11_init 206 = .ok (.iconst 0, 1) := by decide +kernel
theorem dX11_init_207 : decode cX11_init 207 = .ok (.istore_n 1, 1) := by decide +kernel
theorem dX11_init_208 : decode cX11_init 208 = .ok (.iload_n 1, 1) := by decide +kernel
theorem dX11_init_209 : decode cX11_init 209 = .ok (.iconst 4, 1) := by decide +kernel
theorem dX11_init_210 : decode cX11_init 210 = .ok (.if_icmp .ge 16, 3) := by decide +kernel
theorem dX11_init_213 : decode cX11_init 213 = .ok (.aload_n 0, 1) := by decide +kernel
theorem dX11_init_214 : decode cX11_init 214 = .ok (.getfield 49, 3) := by decide +kernel
theorem dX11_init_217 : decode cX11_init 217 = .ok (.iload_n 1, 1) := by decide +kernel
theorem dX11_init_218 : decode cX11_init 218 = .ok (.iconst 1, 1) := by decide +kernel
theorem dX11_init_219 : decode cX11_init 219 = .ok (.iastore, 1) := by decide +kernel
theorem dX11_init_220 : decode cX11_init 220 = .ok (.iinc 1 1, 3) := by decide +kernel
theorem dX11_init_223 : decode cX11_init 223 = .ok (.goto (-15), 3) := by decide +kernel
theorem dX11_init_226 : decode cX11_init 226 = .ok (.aload_n 0, 1) := by decide +kernel
theorem dX11_init_227 : decode cX11_init 227 = .ok (.iconst 1, 1) := by decide +kernel
theorem dX11_init_228 : decode cX11_init 228 = .ok (.lconst 1, 1) := by decide +kernel
theorem dX11_init_229 : decode cX11_init 229 = .ok (.invokevirtual 85, 3) := by decide +kernel
theorem dX11_init_232 : decode cX11_init 232 = .ok (.return_, 1) := by decide +kernel
theorem dX11_trims_0 : decode cX11_trims 0 = .ok (.aload_n 0, 1) := by decide +kernel
theorem dX11_trims_1 : decode cX11_trims 1 = .ok (.getfield 13, 3) := by decide +kernel
theorem dX11_trims_4 : decode cX11_trims 4 = .ok (.iload_n 1, 1) := by decide +kernel
theorem dX11_trims_5 : decode cX11_trims 5 = .ok (.iaload, 1) := by decide +kernel
theorem dX11_trims_6 : decode cX11_trims 6 = .ok (.ifCond .le 37, 3) := by decide +kernel
theorem dX11_trims_9 : decode cX11_trims 9 = .ok (.aload_n 0, 1) := by decide +kernel
theorem dX11_trims_10 : decode cX11_trims 10 = .ok (.getfield 7, 3) := by decide +kernel
theorem dX11_trims_13 : decode cX11_trims 13 = .ok (.bipush 50, 2) := by decide +kernel
theorem dX11_trims_15 : decode cX11_trims 15 = .ok (.iload_n 1, 1) := by decide +kernel
theorem dX11_trims_16 : decode cX11_trims 16 = .ok (.imul, 1) := by decide +kernel
theorem dX11_trims_17 : decode cX11_trims 17 = .ok (.aload_n 0, 1) := by decide +kernel
theorem dX11_trims_18 : decode cX11_trims 18 = .ok (.getfield 13, 3) := by decide +kernel
theorem dX11_trims_21 : decode cX11_trims 21 = .ok (.iload_n 1, 1) := by decide +kernel
theorem dX11_trims_22 : decode cX11_trims 22 = .ok (.iaload, 1) := by decide +kernel
theorem dX11_trims_23 : decode cX11_trims 23 = .ok (.iadd, 1) := by decide +kernel
theorem dX11_trims_24 : decode cX11_trims 24 = .ok (.iconst 1, 1) := by decide +kernel
theorem dX11_trims_25 : decode cX11_trims 25 = .ok (.isub, 1) := by decide +kernel
theorem dX11_trims_26 : decode cX11_trims 26 = .ok (.iaload, 1) := by decide +kernel
theorem dX11_trims_27 : decode cX11_trims 27 = .ok (.ifCond .ne 16, 3) := by decide +kernel
theorem dX11_trims_30 : decode cX11_trims 30 = .ok (.aload_n 0, 1) := by decide +kernel
theorem dX11_trims_31 : decode cX11_trims 31 = .ok (.getfield 13, 3) := by decide +kernel
theorem dX11_trims_34 : decode cX11_trims 34 = .ok (.iload_n 1, 1) := by decide +kernel
theorem dX11_trims_35 : decode cX11_trims 35 = .ok (.dup2, 1) := by decide +kernel
theorem dX11_trims_36 : decode cX11_trims 36 = .ok (.iaload, 1) := by decide +kernel
theorem dX11_trims_37 : decode cX11_trims 37 = .ok (.iconst 1, 1) := by decide +kernel
theorem dX11_trims_38 : decode cX11_trims 38 = .ok (.isub, 1) := by decide +kernel
theorem dX11_trims_39 : decode cX11_trims 39 = .ok (.iastore, 1) := by decide +kernel
theorem dX11_trims_40 : decode cX11_trims 40 = .ok (.goto (-40), 3) := by decide +kernel
theorem dX11_trims_43 : decode cX11_trims 43 = .ok (.return_, 1) := by decide +kernel
theorem dX11_sets_0 : decode cX11_sets 0 = .ok (.iconst 0, 1) := by decide +kernel
theorem dX11_sets_1 : decode cX11_sets 1 = .ok (.istore 4, 2) := by decide +kernel
theorem dX11_sets_3 : decode cX11_sets 3 = .ok (.iload 4, 2) := by decide +kernel
theorem dX11_sets_5 : decode cX11_sets 5 = .ok (.bipush 50, 2) := by decide +kernel
theorem dX11_sets_7 : decode cX11_sets 7 = .ok (.if_icmp .ge 43, 3) := by decide +kernel
theorem dX11_sets_10 : decode cX11_sets 10 = .ok (.aload_n 0, 1) := by decide +kernel
theorem dX11_sets_11 : decode cX11_sets 11 = .ok (.getfield 7, 3) := by decide +kernel
theorem dX11_sets_14 : decode cX11_sets 14 = .ok (.bipush 50, 2) := by decide +kernel
theorem dX11_sets_16 : decode cX11_sets 16 = .ok (.iload_n 1, 1) := by decide +kernel
theorem dX11_sets_17 : decode cX11_sets 17 = .ok (.imul, 1) := by decide +kernel
theorem dX11_sets_18 : decode cX11_sets 18 = .ok (.iload 4, 2) := by decide +kernel
theorem dX11_sets_20 : decode cX11_sets 20 = .ok (.iadd, 1) := by decide +kernel
theorem dX11_sets_21 : decode cX11_sets 21 = .ok (.iload 4, 2) := by decide +kernel
theorem dX11_sets_23 : decode cX11_sets 23 = .ok (.iconst 3, 1) := by decide +kernel
theorem dX11_sets_24 : decode cX11_sets 24 = .ok (.if_icmp .ge 18, 3) := by decide +kernel
theorem dX11_sets_27 : decode cX11_sets 27 = .ok (.lload_n 2, 1) := by decide +kernel
theorem dX11_sets_28 : decode cX11_sets 28 = .ok (.bipush 30, 2) := by decide +kernel
theorem dX11_sets_30 : decode cX11_sets 30 = .ok (.iload 4, 2) := by decide +kernel
theorem dX11_sets_32 : decode cX11_sets 32 = .ok (.imul, 1) := by decide +kernel
theorem dX11_sets_33 : decode cX11_sets 33 = .ok (.lshr, 1) := by decide +kernel
theorem dX11_sets_34 : decode cX11_sets 34 = .ok (.ldc2_w 89, 3) := by decide +kernel
theorem dX11_sets_37 : decode cX11_sets 37 = .ok (.land, 1) := by decide +kernel
theorem dX11_sets_38 : decode cX11_sets 38 = .ok (.l2i, 1) := by decide +kernel
theorem dX11_sets_39 : decode cX11_sets 39 = .ok (.goto 4, 3) := by decide +kernel
theorem dX11_sets_42 : decode cX11_sets 42 = .ok (.iconst 0, 1) := by decide +kernel
theorem dX11_sets_43 : decode cX11_sets 43 = .ok (.iastore, 1) := by decide +kernel
theorem dX11_sets_44 : decode cX11_sets 44 = .ok (.iinc 4 1, 3) := by decide +kernel
theorem dX11_sets_47 : decode cX11_sets 47 = .ok (.goto (-44), 3) := by decide +kernel
theorem dX11_sets_50 : decode cX11_sets 50 = .ok (.aload_n 0, 1) := by decide +kernel
theorem dX11_sets_51 : decode cX11_sets 51 = .ok (.getfield 13, 3) := by decide +kernel
theorem dX11_sets_54 : decode cX11_sets 54 = .ok (.iload_n 1, 1) := by decide +kernel
theorem dX11_sets_55 : decode cX11_sets 55 = .ok (.iconst 3, 1) := by decide +kernel
theorem dX11_sets_56 : decode cX11_sets 56 = .ok (.iastore, 1) := by decide +kernel
theorem dX11_sets_57 : decode cX11_sets 57 = .ok (.aload_n 0, 1) := by decide +kernel
theorem dX11_sets_58 : decode cX11_sets 58 = .ok (.iload_n 1, 1) := by decide +kernel
theorem dX11_sets_59 : decode cX11_sets 59 = .ok (.invokevirtual 91, 3) := by decide +kernel
theorem dX11_sets_62 : decode cX11_sets 62 = .ok (.return_, 1) := by decide +kernel
theorem dX11_takes_0 : decode cX11_takes 0 = .ok (.iconst 0, 1) := by decide +kernel
theorem dX11_takes_1 : decode cX11_takes 1 = .ok (.istore_n 3, 1) := by decide +kernel
theorem dX11_takes_2 : decode cX11_takes 2 = .ok (.iload_n 3, 1) := by decide +kernel
theorem dX11_takes_3 : decode cX11_takes 3 = .ok (.bipush 50, 2) := by decide +kernel
theorem dX11_takes_5 : decode cX11_takes 5 = .ok (.if_icmp .ge 31, 3) := by decide +kernel
theorem dX11_takes_8 : decode cX11_takes 8 = .ok (.aload_n 0, 1) := by decide +kernel
theorem dX11_takes_9 : decode cX11_takes 9 = .ok (.getfield 7, 3) := by decide +kernel
theorem dX11_takes_12 : decode cX11_takes 12 = .ok (.bipush 50, 2) := by decide +kernel
theorem dX11_takes_14 : decode cX11_takes 14 = .ok (.iload_n 1, 1) := by decide +kernel
theorem dX11_takes_15 : decode cX11_takes 15 = .ok (.imul, 1) := by decide +kernel
theorem dX11_takes_16 : decode cX11_takes 16 = .ok (.iload_n 3, 1) := by decide +kernel
theorem dX11_takes_17 : decode cX11_takes 17 = .ok (.iadd, 1) := by decide +kernel
theorem dX11_takes_18 : decode cX11_takes 18 = .ok (.aload_n 0, 1) := by decide +kernel
theorem dX11_takes_19 : decode cX11_takes 19 = .ok (.getfield 7, 3) := by decide +kernel
theorem dX11_takes_22 : decode cX11_takes 22 = .ok (.bipush 50, 2) := by decide +kernel
theorem dX11_takes_24 : decode cX11_takes 24 = .ok (.iload_n 2, 1) := by decide +kernel
theorem dX11_takes_25 : decode cX11_takes 25 = .ok (.imul, 1) := by decide +kernel
theorem dX11_takes_26 : decode cX11_takes 26 = .ok (.iload_n 3, 1) := by decide +kernel
theorem dX11_takes_27 : decode cX11_takes 27 = .ok (.iadd, 1) := by decide +kernel
theorem dX11_takes_28 : decode cX11_takes 28 = .ok (.iaload, 1) := by decide +kernel
theorem dX11_takes_29 : decode cX11_takes 29 = .ok (.iastore, 1) := by decide +kernel
theorem dX11_takes_30 : decode cX11_takes 30 = .ok (.iinc 3 1, 3) := by decide +kernel
theorem dX11_takes_33 : decode cX11_takes 33 = .ok (.goto (-31), 3) := by decide +kernel
theorem dX11_takes_36 : decode cX11_takes 36 = .ok (.aload_n 0, 1) := by decide +kernel
theorem dX11_takes_37 : decode cX11_takes 37 = .ok (.getfield 13, 3) := by decide +kernel
theorem dX11_takes_40 : decode cX11_takes 40 = .ok (.iload_n 1, 1) := by decide +kernel
theorem dX11_takes_41 : decode cX11_takes 41 = .ok (.aload_n 0, 1) := by decide +kernel
theorem dX11_takes_42 : decode cX11_takes 42 = .ok (.getfield 13, 3) := by decide +kernel
theorem dX11_takes_45 : decode cX11_takes 45 = .ok (.iload_n 2, 1) := by decide +kernel
theorem dX11_takes_46 : decode cX11_takes 46 = .ok (.iaload, 1) := by decide +kernel
theorem dX11_takes_47 : decode cX11_takes 47 = .ok (.iastore, 1) := by decide +kernel
theorem dX11_takes_48 : decode cX11_takes 48 = .ok (.return_, 1) := by decide +kernel
theorem dX11_times_0 : decode cX11_times 0 = .ok (.lconst 0, 1) := by decide +kernel
theorem dX11_times_1 : decode cX11_times 1 = .ok (.lstore_n 3, 1) := by decide +kernel
theorem dX11_times_2 : decode cX11_times 2 = .ok (.iconst 0, 1) := by decide +kernel
theorem dX11_times_3 : decode cX11_times 3 = .ok (.istore 5, 2) := by decide +kernel
theorem dX11_times_5 : decode cX11_times 5 = .ok (.iload 5, 2) := by decide +kernel
theorem dX11_times_7 : decode cX11_times 7 = .ok (.aload_n 0, 1) := by decide +kernel
theorem dX11_times_8 : decode cX11_times 8 = .ok (.getfield 13, 3) := by decide +kernel
theorem dX11_times_11 : decode cX11_times 11 = .ok (.iload_n 1, 1) := by decide +kernel
theorem dX11_times_12 : decode cX11_times 12 = .ok (.iaload, 1) := by decide +kernel
theorem dX11_times_13 : decode cX11_times 13 = .ok (.if_icmp .ge 54, 3) := by decide +kernel
theorem dX11_times_16 : decode cX11_times 16 = .ok (.aload_n 0, 1) := by decide +kernel
theorem dX11_times_17 : decode cX11_times 17 = .ok (.getfield 7, 3) := by decide +kernel
theorem dX11_times_20 : decode cX11_times 20 = .ok (.bipush 50, 2) := by decide +kernel
theorem dX11_times_22 : decode cX11_times 22 = .ok (.iload_n 1, 1) := by decide +kernel
theorem dX11_times_23 : decode cX11_times 23 = .ok (.imul, 1) := by decide +kernel
theorem dX11_times_24 : decode cX11_times 24 = .ok (.iload 5, 2) := by decide +kernel
theorem dX11_times_26 : decode cX11_times 26 = .ok (.iadd, 1) := by decide +kernel
theorem dX11_times_27 : decode cX11_times 27 = .ok (.iaload, 1) := by decide +kernel
theorem dX11_times_28 : decode cX11_times 28 = .ok (.i2l, 1) := by decide +kernel
theorem dX11_times_29 : decode cX11_times 29 = .ok (.iload_n 2, 1) := by decide +kernel
theorem dX11_times_30 : decode cX11_times 30 = .ok (.i2l, 1) := by decide +kernel
theorem dX11_times_31 : decode cX11_times 31 = .ok (.lmul, 1) := by decide +kernel
theorem dX11_times_32 : decode cX11_times 32 = .ok (.lload_n 3, 1) := by decide +kernel
theorem dX11_times_33 : decode cX11_times 33 = .ok (.ladd, 1) := by decide +kernel
theorem dX11_times_34 : decode cX11_times 34 = .ok (.lstore 6, 2) := by decide +kernel
theorem dX11_times_36 : decode cX11_times 36 = .ok (.aload_n 0, 1) := by decide +kernel
theorem dX11_times_37 : decode cX11_times 37 = .ok (.getfield 7, 3) := by decide +kernel
theorem dX11_times_40 : decode cX11_times 40 = .ok (.bipush 50, 2) := by decide +kernel
theorem dX11_times_42 : decode cX11_times 42 = .ok (.iload_n 1, 1) := by decide +kernel
theorem dX11_times_43 : decode cX11_times 43 = .ok (.imul, 1) := by decide +kernel
theorem dX11_times_44 : decode cX11_times 44 = .ok (.iload 5, 2) := by decide +kernel
theorem dX11_times_46 : decode cX11_times 46 = .ok (.iadd, 1) := by decide +kernel
theorem dX11_times_47 : decode cX11_times 47 = .ok (.lload 6, 2) := by decide +kernel
theorem dX11_times_49 : decode cX11_times 49 = .ok (.ldc2_w 89, 3) := by decide +kernel
theorem dX11_times_52 : decode cX11_times 52 = .ok (.land, 1) := by decide +kernel
theorem dX11_times_53 : decode cX11_times 53 = .ok (.l2i, 1) := by decide +kernel
theorem dX11_times_54 : decode cX11_times 54 = .ok (.iastore, 1) := by decide +kernel
theorem dX11_times_55 : decode cX11_times 55 = .ok (.lload 6, 2) := by decide +kernel
theorem dX11_times_57 : decode cX11_times 57 = .ok (.bipush 30, 2) := by decide +kernel
theorem dX11_times_59 : decode cX11_times 59 = .ok (.lshr, 1) := by decide +kernel
theorem dX11_times_60 : decode cX11_times 60 = .ok (.lstore_n 3, 1) := by decide +kernel
theorem dX11_times_61 : decode cX11_times 61 = .ok (.iinc 5 1, 3) := by decide +kernel
theorem dX11_times_64 : decode cX11_times 64 = .ok (.goto (-59), 3) := by decide +kernel
theorem dX11_times_67 : decode cX11_times 67 = .ok (.lload_n 3, 1) := by decide +kernel
theorem dX11_times_68 : decode cX11_times 68 = .ok (.lconst 0, 1) := by decide +kernel
theorem dX11_times_69 : decode cX11_times 69 = .ok (.lcmp, 1) := by decide +kernel
theorem dX11_times_70 : decode cX11_times 70 = .ok (.ifCond .le 31, 3) := by decide +kernel
theorem dX11_times_73 : decode cX11_times 73 = .ok (.aload_n 0, 1) := by decide +kernel
theorem dX11_times_74 : decode cX11_times 74 = .ok (.getfield 7, 3) := by decide +kernel
theorem dX11_times_77 : decode cX11_times 77 = .ok (.bipush 50, 2) := by decide +kernel
theorem dX11_times_79 : decode cX11_times 79 = .ok (.iload_n 1, 1) := by decide +kernel
theorem dX11_times_80 : decode cX11_times 80 = .ok (.imul, 1) := by decide +kernel
theorem dX11_times_81 : decode cX11_times 81 = .ok (.aload_n 0, 1) := by decide +kernel
theorem dX11_times_82 : decode cX11_times 82 = .ok (.getfield 13, 3) := by decide +kernel
theorem dX11_times_85 : decode cX11_times 85 = .ok (.iload_n 1, 1) := by decide +kernel
theorem dX11_times_86 : decode cX11_times 86 = .ok (.iaload, 1) := by decide +kernel
theorem dX11_times_87 : decode cX11_times 87 = .ok (.iadd, 1) := by decide +kernel
theorem dX11_times_88 : decode cX11_times 88 = .ok (.lload_n 3, 1) := by decide +kernel
theorem dX11_times_89 : decode cX11_times 89 = .ok (.l2i, 1) := by decide +kernel
theorem dX11_times_90 : decode cX11_times 90 = .ok (.iastore, 1) := by decide +kernel
theorem dX11_times_91 : decode cX11_times 91 = .ok (.aload_n 0, 1) := by decide +kernel
theorem dX11_times_92 : decode cX11_times 92 = .ok (.getfield 13, 3) := by decide +kernel
theorem dX11_times_95 : decode cX11_times 95 = .ok (.iload_n 1, 1) := by decide +kernel
theorem dX11_times_96 : decode cX11_times 96 = .ok (.dup2, 1) := by decide +kernel
theorem dX11_times_97 : decode cX11_times 97 = .ok (.iaload, 1) := by decide +kernel
theorem dX11_times_98 : decode cX11_times 98 = .ok (.iconst 1, 1) := by decide +kernel
theorem dX11_times_99 : decode cX11_times 99 = .ok (.iadd, 1) := by decide +kernel
theorem dX11_times_100 : decode cX11_times 100 = .ok (.iastore, 1) := by decide +kernel
theorem dX11_times_101 : decode cX11_times 101 = .ok (.aload_n 0, 1) := by decide +kernel
theorem dX11_times_102 : decode cX11_times 102 = .ok (.iload_n 1, 1) := by decide +kernel
theorem dX11_times_103 : decode cX11_times 103 = .ok (.invokevirtual 91, 3) := by decide +kernel
theorem dX11_times_106 : decode cX11_times 106 = .ok (.return_, 1) := by decide +kernel
theorem dX11_multiplies_0 : decode cX11_multiplies 0 = .ok (.aload_n 0, 1) := by decide +kernel
theorem dX11_multiplies_1 : decode cX11_multiplies 1 = .ok (.iconst 4, 1) := by decide +kernel
theorem dX11_multiplies_2 : decode cX11_multiplies 2 = .ok (.lconst 0, 1) := by decide +kernel
theorem dX11_multiplies_3 : decode cX11_multiplies 3 = .ok (.invokevirtual 85, 3) := by decide +kernel
theorem dX11_multiplies_6 : decode cX11_multiplies 6 = .ok (.iconst 0, 1) := by decide +kernel
theorem dX11_multiplies_7 : decode cX11_multiplies 7 = .ok (.istore_n 3, 1) := by decide +kernel
theorem dX11_multiplies_8 : decode cX11_multiplies 8 = .ok (.iload_n 3, 1) := by decide +kernel
theorem dX11_multiplies_9 : decode cX11_multiplies 9 = .ok (.aload_n 0, 1) := by decide +kernel
theorem dX11_multiplies_10 : decode cX11_multiplies 10 = .ok (.getfield 13, 3) := by decide +kernel
theorem dX11_multiplies_13 : decode cX11_multiplies 13 = .ok (.iload_n 1, 1) := by decide +kernel
theorem dX11_multiplies_14 : decode cX11_multiplies 14 = .ok (.iaload, 1) := by decide +kernel
theorem dX11_multiplies_15 : decode cX11_multiplies 15 = .ok (.if_icmp .ge 131, 3) := by decide +kernel
theorem dX11_multiplies_18 : decode cX11_multiplies 18 = .ok (.lconst 0, 1) := by decide +kernel
theorem dX11_multiplies_19 : decode cX11_multiplies 19 = .ok (.lstore 4, 2) := by decide +kernel
theorem dX11_multiplies_21 : decode cX11_multiplies 21 = .ok (.iconst 0, 1) := by decide +kernel
theorem dX11_multiplies_22 : decode cX11_multiplies 22 = .ok (.istore 6, 2) := by decide +kernel
theorem dX11_multiplies_24 : decode cX11_multiplies 24 = .ok (.iload 6, 2) := by decide +kernel
theorem dX11_multiplies_26 : decode cX11_multiplies 26 = .ok (.aload_n 0, 1) := by decide +kernel
theorem dX11_multiplies_27 : decode cX11_multiplies 27 = .ok (.getfield 13, 3) := by decide +kernel
theorem dX11_multiplies_30 : decode cX11_multiplies 30 = .ok (.iload_n 2, 1) := by decide +kernel
theorem dX11_multiplies_31 : decode cX11_multiplies 31 = .ok (.iaload, 1) := by decide +kernel
theorem dX11_multiplies_32 : decode cX11_multiplies 32 = .ok (.if_icmp .lt 10, 3) := by decide +kernel
theorem dX11_multiplies_35 : decode cX11_multiplies 35 = .ok (.lload 4, 2) := by decide +kernel
theorem dX11_multiplies_37 : decode cX11_multiplies 37 = .ok (.lconst 0, 1) := by decide +kernel
theorem dX11_multiplies_38 : decode cX11_multiplies 38 = .ok (.lcmp, 1) := by decide +kernel
theorem dX11_multiplies_39 : decode cX11_multiplies 39 = .ok (.ifCond .le 101, 3) := by decide +kernel
theorem dX11_multiplies_42 : decode cX11_multiplies 42 = .ok (.iload 6, 2) := by decide +kernel
theorem dX11_multiplies_44 : decode cX11_multiplies 44 = .ok (.aload_n 0, 1) := by decide +kernel
theorem dX11_multiplies_45 : decode cX11_multiplies 45 = .ok (.getfield 13, 3) := by decide +kernel
theorem dX11_multiplies_48 : decode cX11_multiplies 48 = .ok (.iload_n 2, 1) := by decide +kernel
theorem dX11_multiplies_49 : decode cX11_multiplies 49 = .ok (.iaload, 1) := by decide +kernel
theorem dX11_multiplies_50 : decode cX11_multiplies 50 = .ok (.if_icmp .ge 32, 3) := by decide +kernel
theorem dX11_multiplies_53 : decode cX11_multiplies 53 = .ok (.aload_n 0, 1) := by decide +kernel
theorem dX11_multiplies_54 : decode cX11_multiplies 54 = .ok (.getfield 7, 3) := by decide +kernel
theorem dX11_multiplies_57 : decode cX11_multiplies 57 = .ok (.bipush 50, 2) := by decide +kernel
theorem dX11_multiplies_59 : decode cX11_multiplies 59 = .ok (.iload_n 1, 1) := by decide +kernel
theorem dX11_multiplies_60 : decode cX11_multiplies 60 = .ok (.imul, 1) := by decide +kernel
theorem dX11_multiplies_61 : decode cX11_multiplies 61 = .ok (.iload_n 3, 1) := by decide +kernel
theorem dX11_multiplies_62 : decode cX11_multiplies 62 = .ok (.iadd, 1) := by decide +kernel
theorem dX11_multiplies_63 : decode cX11_multiplies 63 = .ok (.iaload, 1) := by decide +kernel
theorem dX11_multiplies_64 : decode cX11_multiplies 64 = .ok (.i2l, 1) := by decide +kernel
theorem dX11_multiplies_65 : decode cX11_multiplies 65 = .ok (.aload_n 0, 1) := by decide +kernel
theorem dX11_multiplies_66 : decode cX11_multiplies 66 = .ok (.getfield 7, 3) := by decide +kernel
theorem dX11_multiplies_69 : decode cX11_multiplies 69 = .ok (.bipush 50, 2) := by decide +kernel
theorem dX11_multiplies_71 : decode cX11_multiplies 71 = .ok (.iload_n 2, 1) := by decide +kernel
theorem dX11_multiplies_72 : decode cX11_multiplies 72 = .ok (.imul, 1) := by decide +kernel
theorem dX11_multiplies_73 : decode cX11_multiplies 73 = .ok (.iload 6, 2) := by decide +kernel
theorem dX11_multiplies_75 : decode cX11_multiplies 75 = .ok (.iadd, 1) := by decide +kernel
theorem dX11_multiplies_76 : decode cX11_multiplies 76 = .ok (.iaload, 1) := by decide +kernel
theorem dX11_multiplies_77 : decode cX11_multiplies 77 = .ok (.i2l, 1) := by decide +kernel
theorem dX11_multiplies_78 : decode cX11_multiplies 78 = .ok (.lmul, 1) := by decide +kernel
theorem dX11_multiplies_79 : decode cX11_multiplies 79 = .ok (.goto 4, 3) := by decide +kernel
theorem dX11_multiplies_82 : decode cX11_multiplies 82 = .ok (.lconst 0, 1) := by decide +kernel
theorem dX11_multiplies_83 : decode cX11_multiplies 83 = .ok (.lstore 7, 2) := by decide +kernel
theorem dX11_multiplies_85 : decode cX11_multiplies 85 = .ok (.aload_n 0, 1) := by decide +kernel
theorem dX11_multiplies_86 : decode cX11_multiplies 86 = .ok (.getfield 7, 3) := by decide +kernel
theorem dX11_multiplies_89 : decode cX11_multiplies 89 = .ok (.sipush 200, 3) := by decide +kernel
theorem dX11_multiplies_92 : decode cX11_multiplies 92 = .ok (.iload_n 3, 1) := by decide +kernel
theorem dX11_multiplies_93 : decode cX11_multiplies 93 = .ok (.iadd, 1) := by decide +kernel
theorem dX11_multiplies_94 : decode cX11_multiplies 94 = .ok (.iload 6, 2) := by decide +kernel
theorem dX11_multiplies_96 : decode cX11_multiplies 96 = .ok (.iadd, 1) := by decide +kernel
theorem dX11_multiplies_97 : decode cX11_multiplies 97 = .ok (.iaload, 1) := by decide +kernel
theorem dX11_multiplies_98 : decode cX11_multiplies 98 = .ok (.i2l, 1) := by decide +kernel
theorem dX11_multiplies_99 : decode cX11_multiplies 99 = .ok (.lload 7, 2) := by decide +kernel
theorem dX11_multiplies_101 : decode cX11_multiplies 101 = .ok (.ladd, 1) := by decide +kernel
theorem dX11_multiplies_102 : decode cX11_multiplies 102 = .ok (.lload 4, 2) := by decide +kernel
theorem dX11_multiplies_104 : decode cX11_multiplies 104 = .ok (.ladd, 1) := by decide +kernel
theorem dX11_multiplies_105 : decode cX11_multiplies 105 = .ok (.lstore 9, 2) := by decide +kernel
theorem dX11_multiplies_107 : decode cX11_multiplies 107 = .ok (.aload_n 0, 1) := by decide +kernel
theorem dX11_multiplies_108 : decode cX11_multiplies 108 = .ok (.getfield 7, 3) := by decide +kernel
theorem dX11_multiplies_111 : decode cX11_multiplies 111 = .ok (.sipush 200, 3) := by decide +kernel
theorem dX11_multiplies_114 : decode cX11_multiplies 114 = .ok (.iload_n 3, 1) := by decide +kernel
theorem dX11_multiplies_115 : decode cX11_multiplies 115 = .ok (.iadd, 1) := by decide +kernel
theorem dX11_multiplies_116 : decode cX11_multiplies 116 = .ok (.iload 6, 2) := by decide +kernel
theorem dX11_multiplies_118 : decode cX11_multiplies 118 = .ok (.iadd, 1) := by decide +kernel
theorem dX11_multiplies_119 : decode cX11_multiplies 119 = .ok (.lload 9, 2) := by decide +kernel
theorem dX11_multiplies_121 : decode cX11_multiplies 121 = .ok (.ldc2_w 89, 3) := by decide +kernel
theorem dX11_multiplies_124 : decode cX11_multiplies 124 = .ok (.land, 1) := by decide +kernel
theorem dX11_multiplies_125 : decode cX11_multiplies 125 = .ok (.l2i, 1) := by decide +kernel
theorem dX11_multiplies_126 : decode cX11_multiplies 126 = .ok (.iastore, 1) := by decide +kernel
theorem dX11_multiplies_127 : decode cX11_multiplies 127 = .ok (.lload 9, 2) := by decide +kernel
theorem dX11_multiplies_129 : decode cX11_multiplies 129 = .ok (.bipush 30, 2) := by decide +kernel
theorem dX11_multiplies_131 : decode cX11_multiplies 131 = .ok (.lshr, 1) := by decide +kernel
theorem dX11_multiplies_132 : decode cX11_multiplies 132 = .ok (.lstore 4, 2) := by decide +kernel
theorem dX11_multiplies_134 : decode cX11_multiplies 134 = .ok (.iinc 6 1, 3) := by decide +kernel
theorem dX11_multiplies_137 : decode cX11_multiplies 137 = .ok (.goto (-113), 3) := by decide +kernel
theorem dX11_multiplies_140 : decode cX11_multiplies 140 = .ok (.iinc 3 1, 3) := by decide +kernel
theorem dX11_multiplies_143 : decode cX11_multiplies 143 = .ok (.goto (-135), 3) := by decide +kernel
theorem dX11_multiplies_146 : decode cX11_multiplies 146 = .ok (.aload_n 0, 1) := by decide +kernel
theorem dX11_multiplies_147 : decode cX11_multiplies 147 = .ok (.getfield 13, 3) := by decide +kernel
theorem dX11_multiplies_150 : decode cX11_multiplies 150 = .ok (.iconst 4, 1) := by decide +kernel
theorem dX11_multiplies_151 : decode cX11_multiplies 151 = .ok (.aload_n 0, 1) := by decide +kernel
theorem dX11_multiplies_152 : decode cX11_multiplies 152 = .ok (.getfield 13, 3) := by decide +kernel
theorem dX11_multiplies_155 : decode cX11_multiplies 155 = .ok (.iload_n 1, 1) := by decide +kernel
theorem dX11_multiplies_156 : decode cX11_multiplies 156 = .ok (.iaload, 1) := by decide +kernel
theorem dX11_multiplies_157 : decode cX11_multiplies 157 = .ok (.aload_n 0, 1) := by decide +kernel
theorem dX11_multiplies_158 : decode cX11_multiplies 158 = .ok (.getfield 13, 3) := by decide +kernel
theorem dX11_multiplies_161 : decode cX11_multiplies 161 = .ok (.iload_n 2, 1) := by decide +kernel
theorem dX11_multiplies_162 : decode cX11_multiplies 162 = .ok (.iaload, 1) := by decide +kernel
theorem dX11_multiplies_163 : decode cX11_multiplies 163 = .ok (.iadd, 1) := by decide +kernel
theorem dX11_multiplies_164 : decode cX11_multiplies 164 = .ok (.iastore, 1) := by decide +kernel
theorem dX11_multiplies_165 : decode cX11_multiplies 165 = .ok (.aload_n 0, 1) := by decide +kernel
theorem dX11_multiplies_166 : decode cX11_multiplies 166 = .ok (.iconst 4, 1) := by decide +kernel
theorem dX11_multiplies_167 : decode cX11_multiplies 167 = .ok (.invokevirtual 91, 3) := by decide +kernel
theorem dX11_multiplies_170 : decode cX11_multiplies 170 = .ok (.aload_n 0, 1) := by decide +kernel
theorem dX11_multiplies_171 : decode cX11_multiplies 171 = .ok (.iload_n 1, 1) := by decide +kernel
theorem dX11_multiplies_172 : decode cX11_multiplies 172 = .ok (.iconst 4, 1) := by decide +kernel
theorem dX11_multiplies_173 : decode cX11_multiplies 173 = .ok (.invokevirtual 95, 3) := by decide +kernel
theorem dX11_multiplies_176 : decode cX11_multiplies 176 = .ok (.return_, 1) := by decide +kernel
theorem dX11_adds_0 : decode cX11_adds 0 = .ok (.iconst 0, 1) := by decide +kernel
theorem dX11_adds_1 : decode cX11_adds 1 = .ok (.istore_n 3, 1) := by decide +kernel
theorem dX11_adds_2 : decode cX11_adds 2 = .ok (.aload_n 0, 1) := by decide +kernel
theorem dX11_adds_3 : decode cX11_adds 3 = .ok (.getfield 13, 3) := by decide +kernel
theorem dX11_adds_6 : decode cX11_adds 6 = .ok (.iload_n 1, 1) := by decide +kernel
theorem dX11_adds_7 : decode cX11_adds 7 = .ok (.iaload, 1) := by decide +kernel
theorem dX11_adds_8 : decode cX11_adds 8 = .ok (.aload_n 0, 1) := by decide +kernel
theorem dX11_adds_9 : decode cX11_adds 9 = .ok (.getfield 13, 3) := by decide +kernel
theorem dX11_adds_12 : decode cX11_adds 12 = .ok (.iload_n 2, 1) := by decide +kernel
theorem dX11_adds_13 : decode cX11_adds 13 = .ok (.iaload, 1) := by decide +kernel
theorem dX11_adds_14 : decode cX11_adds 14 = .ok (.if_icmp .le 12, 3) := by decide +kernel
theorem dX11_adds_17 : decode cX11_adds 17 = .ok (.aload_n 0, 1) := by decide +kernel
theorem dX11_adds_18 : decode cX11_adds 18 = .ok (.getfield 13, 3) := by decide +kernel
theorem dX11_adds_21 : decode cX11_adds 21 = .ok (.iload_n 1, 1) := by decide +kernel
theorem dX11_adds_22 : decode cX11_adds 22 = .ok (.iaload, 1) := by decide +kernel
theorem dX11_adds_23 : decode cX11_adds 23 = .ok (.goto 9, 3) := by decide +kernel
theorem dX11_adds_26 : decode cX11_adds 26 = .ok (.aload_n 0, 1) := by decide +kernel
theorem dX11_adds_27 : decode cX11_adds 27 = .ok (.getfield 13, 3) := by decide +kernel
theorem dX11_adds_30 : decode cX11_adds 30 = .ok (.iload_n 2, 1) := by decide +kernel
theorem dX11_adds_31 : decode cX11_adds 31 = .ok (.iaload, 1) := by decide +kernel
theorem dX11_adds_32 : decode cX11_adds 32 = .ok (.istore 4, 2) := by decide +kernel
theorem dX11_adds_34 : decode cX11_adds 34 = .ok (.iconst 0, 1) := by decide +kernel
theorem dX11_adds_35 : decode cX11_adds 35 = .ok (.istore 5, 2) := by decide +kernel
theorem dX11_adds_37 : decode cX11_adds 37 = .ok (.iload 5, 2) := by decide +kernel
theorem dX11_adds_39 : decode cX11_adds 39 = .ok (.iload 4, 2) := by decide +kernel
theorem dX11_adds_41 : decode cX11_adds 41 = .ok (.if_icmp .ge 61, 3) := by decide +kernel
theorem dX11_adds_44 : decode cX11_adds 44 = .ok (.aload_n 0, 1) := by decide +kernel
theorem dX11_adds_45 : decode cX11_adds 45 = .ok (.getfield 7, 3) := by decide +kernel
theorem dX11_adds_48 : decode cX11_adds 48 = .ok (.bipush 50, 2) := by decide +kernel
theorem dX11_adds_50 : decode cX11_adds 50 = .ok (.iload_n 1, 1) := by decide +kernel
theorem dX11_adds_51 : decode cX11_adds 51 = .ok (.imul, 1) := by decide +kernel
theorem dX11_adds_52 : decode cX11_adds 52 = .ok (.iload 5, 2) := by decide +kernel
theorem dX11_adds_54 : decode cX11_adds 54 = .ok (.iadd, 1) := by decide +kernel
theorem dX11_adds_55 : decode cX11_adds 55 = .ok (.iaload, 1) := by decide +kernel
theorem dX11_adds_56 : decode cX11_adds 56 = .ok (.aload_n 0, 1) := by decide +kernel
theorem dX11_adds_57 : decode cX11_adds 57 = .ok (.getfield 7, 3) := by decide +kernel
theorem dX11_adds_60 : decode cX11_adds 60 = .ok (.bipush 50, 2) := by decide +kernel
theorem dX11_adds_62 : decode cX11_adds 62 = .ok (.iload_n 2, 1) := by decide +kernel
theorem dX11_adds_63 : decode cX11_adds 63 = .ok (.imul, 1) := by decide +kernel
theorem dX11_adds_64 : decode cX11_adds 64 = .ok (.iload 5, 2) := by decide +kernel
theorem dX11_adds_66 : decode cX11_adds 66 = .ok (.iadd, 1) := by decide +kernel
theorem dX11_adds_67 : decode cX11_adds 67 = .ok (.iaload, 1) := by decide +kernel
theorem dX11_adds_68 : decode cX11_adds 68 = .ok (.iadd, 1) := by decide +kernel
theorem dX11_adds_69 : decode cX11_adds 69 = .ok (.iload_n 3, 1) := by decide +kernel
theorem dX11_adds_70 : decode cX11_adds 70 = .ok (.iadd, 1) := by decide +kernel
theorem dX11_adds_71 : decode cX11_adds 71 = .ok (.istore 6, 2) := by decide +kernel
theorem dX11_adds_73 : decode cX11_adds 73 = .ok (.aload_n 0, 1) := by decide +kernel
theorem dX11_adds_74 : decode cX11_adds 74 = .ok (.getfield 7, 3) := by decide +kernel
theorem dX11_adds_77 : decode cX11_adds 77 = .ok (.bipush 50, 2) := by decide +kernel
theorem dX11_adds_79 : decode cX11_adds 79 = .ok (.iload_n 1, 1) := by decide +kernel
theorem dX11_adds_80 : decode cX11_adds 80 = .ok (.imul, 1) := by decide +kernel
theorem dX11_adds_81 : decode cX11_adds 81 = .ok (.iload 5, 2) := by decide +kernel
theorem dX11_adds_83 : decode cX11_adds 83 = .ok (.iadd, 1) := by decide +kernel
theorem dX11_adds_84 : decode cX11_adds 84 = .ok (.iload 6, 2) := by decide +kernel
theorem dX11_adds_86 : decode cX11_adds 86 = .ok (.ldc 99, 2) := by decide +kernel
theorem dX11_adds_88 : decode cX11_adds 88 = .ok (.iand, 1) := by decide +kernel
theorem dX11_adds_89 : decode cX11_adds 89 = .ok (.iastore, 1) := by decide +kernel
theorem dX11_adds_90 : decode cX11_adds 90 = .ok (.iload 6, 2) := by decide +kernel
theorem dX11_adds_92 : decode cX11_adds 92 = .ok (.bipush 30, 2) := by decide +kernel
theorem dX11_adds_94 : decode cX11_adds 94 = .ok (.iushr, 1) := by decide +kernel
theorem dX11_adds_95 : decode cX11_adds 95 = .ok (.istore_n 3, 1) := by decide +kernel
theorem dX11_adds_96 : decode cX11_adds 96 = .ok (.iinc 5 1, 3) := by decide +kernel
theorem dX11_adds_99 : decode cX11_adds 99 = .ok (.goto (-62), 3) := by decide +kernel
theorem dX11_adds_102 : decode cX11_adds 102 = .ok (.aload_n 0, 1) := by decide +kernel
theorem dX11_adds_103 : decode cX11_adds 103 = .ok (.getfield 7, 3) := by decide +kernel
theorem dX11_adds_106 : decode cX11_adds 106 = .ok (.bipush 50, 2) := by decide +kernel
theorem dX11_adds_108 : decode cX11_adds 108 = .ok (.iload_n 1, 1) := by decide +kernel
theorem dX11_adds_109 : decode cX11_adds 109 = .ok (.imul, 1) := by decide +kernel
theorem dX11_adds_110 : decode cX11_adds 110 = .ok (.iload 4, 2) := by decide +kernel
theorem dX11_adds_112 : decode cX11_adds 112 = .ok (.iadd, 1) := by decide +kernel
theorem dX11_adds_113 : decode cX11_adds 113 = .ok (.iload_n 3, 1) := by decide +kernel
theorem dX11_adds_114 : decode cX11_adds 114 = .ok (.iastore, 1) := by decide +kernel
theorem dX11_adds_115 : decode cX11_adds 115 = .ok (.aload_n 0, 1) := by decide +kernel
theorem dX11_adds_116 : decode cX11_adds 116 = .ok (.getfield 13, 3) := by decide +kernel
theorem dX11_adds_119 : decode cX11_adds 119 = .ok (.iload_n 1, 1) := by decide +kernel
theorem dX11_adds_120 : decode cX11_adds 120 = .ok (.iload 4, 2) := by decide +kernel
theorem dX11_adds_122 : decode cX11_adds 122 = .ok (.iload_n 3, 1) := by decide +kernel
theorem dX11_adds_123 : decode cX11_adds 123 = .ok (.iadd, 1) := by decide +kernel
theorem dX11_adds_124 : decode cX11_adds 124 = .ok (.iastore, 1) := by decide +kernel
theorem dX11_adds_125 : decode cX11_adds 125 = .ok (.aload_n 0, 1) := by decide +kernel
theorem dX11_adds_126 : decode cX11_adds 126 = .ok (.iload_n 1, 1) := by decide +kernel
theorem dX11_adds_127 : decode cX11_adds 127 = .ok (.invokevirtual 91, 3) := by decide +kernel
theorem dX11_adds_130 : decode cX11_adds 130 = .ok (.return_, 1) := by decide +kernel
theorem dX11_lessens_0 : decode cX11_lessens 0 = .ok (.iconst 0, 1) := by decide +kernel
theorem dX11_lessens_1 : decode cX11_lessens 1 = .ok (.istore_n 3, 1) := by decide +kernel
theorem dX11_lessens_2 : decode cX11_lessens 2 = .ok (.iconst 0, 1) := by decide +kernel
theorem dX11_lessens_3 : decode cX11_lessens 3 = .ok (.istore 4, 2) := by decide +kernel
theorem dX11_lessens_5 : decode cX11_lessens 5 = .ok (.iload 4, 2) := by decide +kernel
theorem dX11_lessens_7 : decode cX11_lessens 7 = .ok (.aload_n 0, 1) := by decide +kernel
theorem dX11_lessens_8 : decode cX11_lessens 8 = .ok (.getfield 13, 3) := by decide +kernel
theorem dX11_lessens_11 : decode cX11_lessens 11 = .ok (.iload_n 1, 1) := by decide +kernel
theorem dX11_lessens_12 : decode cX11_lessens 12 = .ok (.iaload, 1) := by decide +kernel
theorem dX11_lessens_13 : decode cX11_lessens 13 = .ok (.if_icmp .ge 66, 3) := by decide +kernel
theorem dX11_lessens_16 : decode cX11_lessens 16 = .ok (.aload_n 0, 1) := by decide +kernel
theorem dX11_lessens_17 : decode cX11_lessens 17 = .ok (.getfield 7, 3) := by decide +kernel
theorem dX11_lessens_20 : decode cX11_lessens 20 = .ok (.bipush 50, 2) := by decide +kernel
theorem dX11_lessens_22 : decode cX11_lessens 22 = .ok (.iload_n 1, 1) := by decide +kernel
theorem dX11_lessens_23 : decode cX11_lessens 23 = .ok (.imul, 1) := by decide +kernel
theorem dX11_lessens_24 : decode cX11_lessens 24 = .ok (.iload 4, 2) := by decide +kernel
theorem dX11_lessens_26 : decode cX11_lessens 26 = .ok (.iadd, 1) := by decide +kernel
theorem dX11_lessens_27 : decode cX11_lessens 27 = .ok (.iaload, 1) := by decide +kernel
theorem dX11_lessens_28 : decode cX11_lessens 28 = .ok (.aload_n 0, 1) := by decide +kernel
theorem dX11_lessens_29 : decode cX11_lessens 29 = .ok (.getfield 7, 3) := by decide +kernel
theorem dX11_lessens_32 : decode cX11_lessens 32 = .ok (.bipush 50, 2) := by decide +kernel
theorem dX11_lessens_34 : decode cX11_lessens 34 = .ok (.iload_n 2, 1) := by decide +kernel
theorem dX11_lessens_35 : decode cX11_lessens 35 = .ok (.imul, 1) := by decide +kernel
theorem dX11_lessens_36 : decode cX11_lessens 36 = .ok (.iload 4, 2) := by decide +kernel
theorem dX11_lessens_38 : decode cX11_lessens 38 = .ok (.iadd, 1) := by decide +kernel
theorem dX11_lessens_39 : decode cX11_lessens 39 = .ok (.iaload, 1) := by decide +kernel
theorem dX11_lessens_40 : decode cX11_lessens 40 = .ok (.isub, 1) := by decide +kernel
theorem dX11_lessens_41 : decode cX11_lessens 41 = .ok (.iload_n 3, 1) := by decide +kernel
theorem dX11_lessens_42 : decode cX11_lessens 42 = .ok (.isub, 1) := by decide +kernel
theorem dX11_lessens_43 : decode cX11_lessens 43 = .ok (.istore 5, 2) := by decide +kernel
theorem dX11_lessens_45 : decode cX11_lessens 45 = .ok (.aload_n 0, 1) := by decide +kernel
theorem dX11_lessens_46 : decode cX11_lessens 46 = .ok (.getfield 7, 3) := by decide +kernel
theorem dX11_lessens_49 : decode cX11_lessens 49 = .ok (.bipush 50, 2) := by decide +kernel
theorem dX11_lessens_51 : decode cX11_lessens 51 = .ok (.iload_n 1, 1) := by decide +kernel
theorem dX11_lessens_52 : decode cX11_lessens 52 = .ok (.imul, 1) := by decide +kernel
theorem dX11_lessens_53 : decode cX11_lessens 53 = .ok (.iload 4, 2) := by decide +kernel
theorem dX11_lessens_55 : decode cX11_lessens 55 = .ok (.iadd, 1) := by decide +kernel
theorem dX11_lessens_56 : decode cX11_lessens 56 = .ok (.iload 5, 2) := by decide +kernel
theorem dX11_lessens_58 : decode cX11_lessens 58 = .ok (.ldc 99, 2) := by decide +kernel
theorem dX11_lessens_60 : decode cX11_lessens 60 = .ok (.iand, 1) := by decide +kernel
theorem dX11_lessens_61 : decode cX11_lessens 61 = .ok (.iastore, 1) := by decide +kernel
theorem dX11_lessens_62 : decode cX11_lessens 62 = .ok (.iload 5, 2) := by decide +kernel
theorem dX11_lessens_64 : decode cX11_lessens 64 = .ok (.ifCond .ge 7, 3) := by decide +kernel
theorem dX11_lessens_67 : decode cX11_lessens 67 = .ok (.iconst 1, 1) := by decide +kernel
theorem dX11_lessens_68 : decode cX11_lessens 68 = .ok (.goto 4, 3) := by decide +kernel
theorem dX11_lessens_71 : decode cX11_lessens 71 = .ok (.iconst 0, 1) := by decide +kernel
theorem dX11_lessens_72 : decode cX11_lessens 72 = .ok (.istore_n 3, 1) := by decide +kernel
theorem dX11_lessens_73 : decode cX11_lessens 73 = .ok (.iinc 4 1, 3) := by decide +kernel
theorem dX11_lessens_76 : decode cX11_lessens 76 = .ok (.goto (-71), 3) := by decide +kernel
theorem dX11_lessens_79 : decode cX11_lessens 79 = .ok (.aload_n 0, 1) := by decide +kernel
theorem dX11_lessens_80 : decode cX11_lessens 80 = .ok (.iload_n 1, 1) := by decide +kernel
theorem dX11_lessens_81 : decode cX11_lessens 81 = .ok (.invokevirtual 91, 3) := by decide +kernel
theorem dX11_lessens_84 : decode cX11_lessens 84 = .ok (.return_, 1) := by decide +kernel
theorem dX11_against_0 : decode cX11_against 0 = .ok (.aload_n 0, 1) := by decide +kernel
theorem dX11_against_1 : decode cX11_against 1 = .ok (.getfield 13, 3) := by decide +kernel
theorem dX11_against_4 : decode cX11_against 4 = .ok (.iload_n 1, 1) := by decide +kernel
theorem dX11_against_5 : decode cX11_against 5 = .ok (.iaload, 1) := by decide +kernel
theorem dX11_against_6 : decode cX11_against 6 = .ok (.aload_n 0, 1) := by decide +kernel
theorem dX11_against_7 : decode cX11_against 7 = .ok (.getfield 13, 3) := by decide +kernel
theorem dX11_against_10 : decode cX11_against 10 = .ok (.iload_n 2, 1) := by decide +kernel
theorem dX11_against_11 : decode cX11_against 11 = .ok (.iaload, 1) := by decide +kernel
theorem dX11_against_12 : decode cX11_against 12 = .ok (.if_icmp .eq 24, 3) := by decide +kernel
theorem dX11_against_15 : decode cX11_against 15 = .ok (.aload_n 0, 1) := by decide +kernel
theorem dX11_against_16 : decode cX11_against 16 = .ok (.getfield 13, 3) := by decide +kernel
theorem dX11_against_19 : decode cX11_against 19 = .ok (.iload_n 1, 1) := by decide +kernel
theorem dX11_against_20 : decode cX11_against 20 = .ok (.iaload, 1) := by decide +kernel
theorem dX11_against_21 : decode cX11_against 21 = .ok (.aload_n 0, 1) := by decide +kernel
theorem dX11_against_22 : decode cX11_against 22 = .ok (.getfield 13, 3) := by decide +kernel
theorem dX11_against_25 : decode cX11_against 25 = .ok (.iload_n 2, 1) := by decide +kernel
theorem dX11_against_26 : decode cX11_against 26 = .ok (.iaload, 1) := by decide +kernel
theorem dX11_against_27 : decode cX11_against 27 = .ok (.if_icmp .ge 7, 3) := by decide +kernel
theorem dX11_against_30 : decode cX11_against 30 = .ok (.iconst (-1), 1) := by decide +kernel
theorem dX11_against_31 : decode cX11_against 31 = .ok (.goto 4, 3) := by decide +kernel
theorem dX11_against_34 : decode cX11_against 34 = .ok (.iconst 1, 1) := by decide +kernel
theorem dX11_against_35 : decode cX11_against 35 = .ok (.ireturn, 1) := by decide +kernel
theorem dX11_against_36 : decode cX11_against 36 = .ok (.aload_n 0, 1) := by decide +kernel
theorem dX11_against_37 : decode cX11_against 37 = .ok (.getfield 13, 3) := by decide +kernel
theorem dX11_against_40 : decode cX11_against 40 = .ok (.iload_n 1, 1) := by decide +kernel
theorem dX11_against_41 : decode cX11_against 41 = .ok (.iaload, 1) := by decide +kernel
theorem dX11_against_42 : decode cX11_against 42 = .ok (.iconst 1, 1) := by decide +kernel
theorem dX11_against_43 : decode cX11_against 43 = .ok (.isub, 1) := by decide +kernel
theorem dX11_against_44 : decode cX11_against 44 = .ok (.istore_n 3, 1) := by decide +kernel
theorem dX11_against_45 : decode cX11_against 45 = .ok (.iload_n 3, 1) := by decide +kernel
theorem dX11_against_46 : decode cX11_against 46 = .ok (.ifCond .lt 65, 3) := by decide +kernel
theorem dX11_against_49 : decode cX11_against 49 = .ok (.aload_n 0, 1) := by decide +kernel
theorem dX11_against_50 : decode cX11_against 50 = .ok (.getfield 7, 3) := by decide +kernel
theorem dX11_against_53 : decode cX11_against 53 = .ok (.bipush 50, 2) := by decide +kernel
theorem dX11_against_55 : decode cX11_against 55 = .ok (.iload_n 1, 1) := by decide +kernel
theorem dX11_against_56 : decode cX11_against 56 = .ok (.imul, 1) := by decide +kernel
theorem dX11_against_57 : decode cX11_against 57 = .ok (.iload_n 3, 1) := by decide +kernel
theorem dX11_against_58 : decode cX11_against 58 = .ok (.iadd, 1) := by decide +kernel
theorem dX11_against_59 : decode cX11_against 59 = .ok (.iaload, 1) := by decide +kernel
theorem dX11_against_60 : decode cX11_against 60 = .ok (.aload_n 0, 1) := by decide +kernel
theorem dX11_against_61 : decode cX11_against 61 = .ok (.getfield 7, 3) := by decide +kernel
theorem dX11_against_64 : decode cX11_against 64 = .ok (.bipush 50, 2) := by decide +kernel
theorem dX11_against_66 : decode cX11_against 66 = .ok (.iload_n 2, 1) := by decide +kernel
theorem dX11_against_67 : decode cX11_against 67 = .ok (.imul, 1) := by decide +kernel
theorem dX11_against_68 : decode cX11_against 68 = .ok (.iload_n 3, 1) := by decide +kernel
theorem dX11_against_69 : decode cX11_against 69 = .ok (.iadd, 1) := by decide +kernel
theorem dX11_against_70 : decode cX11_against 70 = .ok (.iaload, 1) := by decide +kernel
theorem dX11_against_71 : decode cX11_against 71 = .ok (.if_icmp .eq 34, 3) := by decide +kernel
theorem dX11_against_74 : decode cX11_against 74 = .ok (.aload_n 0, 1) := by decide +kernel
theorem dX11_against_75 : decode cX11_against 75 = .ok (.getfield 7, 3) := by decide +kernel
theorem dX11_against_78 : decode cX11_against 78 = .ok (.bipush 50, 2) := by decide +kernel
theorem dX11_against_80 : decode cX11_against 80 = .ok (.iload_n 1, 1) := by decide +kernel
theorem dX11_against_81 : decode cX11_against 81 = .ok (.imul, 1) := by decide +kernel
theorem dX11_against_82 : decode cX11_against 82 = .ok (.iload_n 3, 1) := by decide +kernel
theorem dX11_against_83 : decode cX11_against 83 = .ok (.iadd, 1) := by decide +kernel
theorem dX11_against_84 : decode cX11_against 84 = .ok (.iaload, 1) := by decide +kernel
theorem dX11_against_85 : decode cX11_against 85 = .ok (.aload_n 0, 1) := by decide +kernel
theorem dX11_against_86 : decode cX11_against 86 = .ok (.getfield 7, 3) := by decide +kernel
theorem dX11_against_89 : decode cX11_against 89 = .ok (.bipush 50, 2) := by decide +kernel
theorem dX11_against_91 : decode cX11_against 91 = .ok (.iload_n 2, 1) := by decide +kernel
theorem dX11_against_92 : decode cX11_against 92 = .ok (.imul, 1) := by decide +kernel
theorem dX11_against_93 : decode cX11_against 93 = .ok (.iload_n 3, 1) := by decide +kernel
theorem dX11_against_94 : decode cX11_against 94 = .ok (.iadd, 1) := by decide +kernel
theorem dX11_against_95 : decode cX11_against 95 = .ok (.iaload, 1) := by decide +kernel
theorem dX11_against_96 : decode cX11_against 96 = .ok (.if_icmp .ge 7, 3) := by decide +kernel
theorem dX11_against_99 : decode cX11_against 99 = .ok (.iconst (-1), 1) := by decide +kernel
theorem dX11_against_100 : decode cX11_against 100 = .ok (.goto 4, 3) := by decide +kernel
theorem dX11_against_103 : decode cX11_against 103 = .ok (.iconst 1, 1) := by decide +kernel
theorem dX11_against_104 : decode cX11_against 104 = .ok (.ireturn, 1) := by decide +kernel
theorem dX11_against_105 : decode cX11_against 105 = .ok (.iinc 3 (-1), 3) := by decide +kernel
theorem dX11_against_108 : decode cX11_against 108 = .ok (.goto (-63), 3) := by decide +kernel
theorem dX11_against_111 : decode cX11_against 111 = .ok (.iconst 0, 1) := by decide +kernel
theorem dX11_against_112 : decode cX11_against 112 = .ok (.ireturn, 1) := by decide +kernel
theorem dX11_isEven_0 : decode cX11_isEven 0 = .ok (.aload_n 0, 1) := by decide +kernel
theorem dX11_isEven_1 : decode cX11_isEven 1 = .ok (.getfield 7, 3) := by decide +kernel
theorem dX11_isEven_4 : decode cX11_isEven 4 = .ok (.bipush 50, 2) := by decide +kernel
theorem dX11_isEven_6 : decode cX11_isEven 6 = .ok (.iload_n 1, 1) := by decide +kernel
theorem dX11_isEven_7 : decode cX11_isEven 7 = .ok (.imul, 1) := by decide +kernel
theorem dX11_isEven_8 : decode cX11_isEven 8 = .ok (.iaload, 1) := by decide +kernel
theorem dX11_isEven_9 : decode cX11_isEven 9 = .ok (.iconst 1, 1) := by decide +kernel
theorem dX11_isEven_10 : decode cX11_isEven 10 = .ok (.iand, 1) := by decide +kernel
theorem dX11_isEven_11 : decode cX11_isEven 11 = .ok (.ifCond .ne 7, 3) := by decide +kernel
theorem dX11_isEven_14 : decode cX11_isEven 14 = .ok (.iconst 1, 1) := by decide +kernel
theorem dX11_isEven_15 : decode cX11_isEven 15 = .ok (.goto 4, 3) := by decide +kernel
theorem dX11_isEven_18 : decode cX11_isEven 18 = .ok (.iconst 0, 1) := by decide +kernel
theorem dX11_isEven_19 : decode cX11_isEven 19 = .ok (.ireturn, 1) := by decide +kernel
theorem dX11_halves_0 : decode cX11_halves 0 = .ok (.iconst 0, 1) := by decide +kernel
theorem dX11_halves_1 : decode cX11_halves 1 = .ok (.istore_n 2, 1) := by decide +kernel
theorem dX11_halves_2 : decode cX11_halves 2 = .ok (.iload_n 2, 1) := by decide +kernel
theorem dX11_halves_3 : decode cX11_halves 3 = .ok (.aload_n 0, 1) := by decide +kernel
theorem dX11_halves_4 : decode cX11_halves 4 = .ok (.getfield 13, 3) := by decide +kernel
theorem dX11_halves_7 : decode cX11_halves 7 = .ok (.iload_n 1, 1) := by decide +kernel
theorem dX11_halves_8 : decode cX11_halves 8 = .ok (.iaload, 1) := by decide +kernel
theorem dX11_halves_9 : decode cX11_halves 9 = .ok (.if_icmp .ge 70, 3) := by decide +kernel
theorem dX11_halves_12 : decode cX11_halves 12 = .ok (.iload_n 2, 1) := by decide +kernel
theorem dX11_halves_13 : decode cX11_halves 13 = .ok (.iconst 1, 1) := by decide +kernel
theorem dX11_halves_14 : decode cX11_halves 14 = .ok (.iadd, 1) := by decide +kernel
theorem dX11_halves_15 : decode cX11_halves 15 = .ok (.aload_n 0, 1) := by decide +kernel
theorem dX11_halves_16 : decode cX11_halves 16 = .ok (.getfield 13, 3) := by decide +kernel
theorem dX11_halves_19 : decode cX11_halves 19 = .ok (.iload_n 1, 1) := by decide +kernel
theorem dX11_halves_20 : decode cX11_halves 20 = .ok (.iaload, 1) := by decide +kernel
theorem dX11_halves_21 : decode cX11_halves 21 = .ok (.if_icmp .ge 21, 3) := by decide +kernel
theorem dX11_halves_24 : decode cX11_halves 24 = .ok (.aload_n 0, 1) := by decide +kernel
theorem dX11_halves_25 : decode cX11_halves 25 = .ok (.getfield 7, 3) := by decide +kernel
theorem dX11_halves_28 : decode cX11_halves 28 = .ok (.bipush 50, 2) := by decide +kernel
theorem dX11_halves_30 : decode cX11_halves 30 = .ok (.iload_n 1, 1) := by decide +kernel
theorem dX11_halves_31 : decode cX11_halves 31 = .ok (.imul, 1) := by decide +kernel
theorem dX11_halves_32 : decode cX11_halves 32 = .ok (.iload_n 2, 1) := by decide +kernel
theorem dX11_halves_33 : decode cX11_halves 33 = .ok (.iadd, 1) := by decide +kernel
theorem dX11_halves_34 : decode cX11_halves 34 = .ok (.iconst 1, 1) := by decide +kernel
theorem dX11_halves_35 : decode cX11_halves 35 = .ok (.iadd, 1) := by decide +kernel
theorem dX11_halves_36 : decode cX11_halves 36 = .ok (.iaload, 1) := by decide +kernel
theorem dX11_halves_37 : decode cX11_halves 37 = .ok (.iconst 1, 1) := by decide +kernel
theorem dX11_halves_38 : decode cX11_halves 38 = .ok (.iand, 1) := by decide +kernel
theorem dX11_halves_39 : decode cX11_halves 39 = .ok (.goto 4, 3) := by decide +kernel
theorem dX11_halves_42 : decode cX11_halves 42 = .ok (.iconst 0, 1) := by decide +kernel
theorem dX11_halves_43 : decode cX11_halves 43 = .ok (.istore_n 3, 1) := by decide +kernel
theorem dX11_halves_44 : decode cX11_halves 44 = .ok (.aload_n 0, 1) := by decide +kernel
theorem dX11_halves_45 : decode cX11_halves 45 = .ok (.getfield 7, 3) := by decide +kernel
theorem dX11_halves_48 : decode cX11_halves 48 = .ok (.bipush 50, 2) := by decide +kernel
theorem dX11_halves_50 : decode cX11_halves 50 = .ok (.iload_n 1, 1) := by decide +kernel
theorem dX11_halves_51 : decode cX11_halves 51 = .ok (.imul, 1) := by decide +kernel
theorem dX11_halves_52 : decode cX11_halves 52 = .ok (.iload_n 2, 1) := by decide +kernel
theorem dX11_halves_53 : decode cX11_halves 53 = .ok (.iadd, 1) := by decide +kernel
theorem dX11_halves_54 : decode cX11_halves 54 = .ok (.aload_n 0, 1) := by decide +kernel
theorem dX11_halves_55 : decode cX11_halves 55 = .ok (.getfield 7, 3) := by decide +kernel
theorem dX11_halves_58 : decode cX11_halves 58 = .ok (.bipush 50, 2) := by decide +kernel
theorem dX11_halves_60 : decode cX11_halves 60 = .ok (.iload_n 1, 1) := by decide +kernel
theorem dX11_halves_61 : decode cX11_halves 61 = .ok (.imul, 1) := by decide +kernel
theorem dX11_halves_62 : decode cX11_halves 62 = .ok (.iload_n 2, 1) := by decide +kernel
theorem dX11_halves_63 : decode cX11_halves 63 = .ok (.iadd, 1) := by decide +kernel
theorem dX11_halves_64 : decode cX11_halves 64 = .ok (.iaload, 1) := by decide +kernel
theorem dX11_halves_65 : decode cX11_halves 65 = .ok (.iconst 1, 1) := by decide +kernel
theorem dX11_halves_66 : decode cX11_halves 66 = .ok (.ishr, 1) := by decide +kernel
theorem dX11_halves_67 : decode cX11_halves 67 = .ok (.iload_n 3, 1) := by decide +kernel
theorem dX11_halves_68 : decode cX11_halves 68 = .ok (.bipush 29, 2) := by decide +kernel
theorem dX11_halves_70 : decode cX11_halves 70 = .ok (.ishl, 1) := by decide +kernel
theorem dX11_halves_71 : decode cX11_halves 71 = .ok (.ior, 1) := by decide +kernel
theorem dX11_halves_72 : decode cX11_halves 72 = .ok (.iastore, 1) := by decide +kernel
theorem dX11_halves_73 : decode cX11_halves 73 = .ok (.iinc 2 1, 3) := by decide +kernel
theorem dX11_halves_76 : decode cX11_halves 76 = .ok (.goto (-74), 3) := by decide +kernel
theorem dX11_halves_79 : decode cX11_halves 79 = .ok (.aload_n 0, 1) := by decide +kernel
theorem dX11_halves_80 : decode cX11_halves 80 = .ok (.iload_n 1, 1) := by decide +kernel
theorem dX11_halves_81 : decode cX11_halves 81 = .ok (.invokevirtual 91, 3) := by decide +kernel
theorem dX11_halves_84 : decode cX11_halves 84 = .ok (.return_, 1) := by decide +kernel
theorem dX11_lowers_0 : decode cX11_lowers 0 = .ok (.aload_n 0, 1) := by decide +kernel
theorem dX11_lowers_1 : decode cX11_lowers 1 = .ok (.getfield 13, 3) := by decide +kernel
theorem dX11_lowers_4 : decode cX11_lowers 4 = .ok (.iconst 0, 1) := by decide +kernel
theorem dX11_lowers_5 : decode cX11_lowers 5 = .ok (.iaload, 1) := by decide +kernel
theorem dX11_lowers_6 : decode cX11_lowers 6 = .ok (.ifCond .ne 10, 3) := by decide +kernel
theorem dX11_lowers_9 : decode cX11_lowers 9 = .ok (.aload_n 0, 1) := by decide +kernel
theorem dX11_lowers_10 : decode cX11_lowers 10 = .ok (.iconst 1, 1) := by decide +kernel
theorem dX11_lowers_11 : decode cX11_lowers 11 = .ok (.lconst 1, 1) := by decide +kernel
theorem dX11_lowers_12 : decode cX11_lowers 12 = .ok (.invokevirtual 85, 3) := by decide +kernel
theorem dX11_lowers_15 : decode cX11_lowers 15 = .ok (.return_, 1) := by decide +kernel
theorem dX11_lowers_16 : decode cX11_lowers 16 = .ok (.aload_n 0, 1) := by decide +kernel
theorem dX11_lowers_17 : decode cX11_lowers 17 = .ok (.iconst 0, 1) := by decide +kernel
theorem dX11_lowers_18 : decode cX11_lowers 18 = .ok (.invokevirtual 100, 3) := by decide +kernel
theorem dX11_lowers_21 : decode cX11_lowers 21 = .ok (.ifCond .eq 24, 3) := by decide +kernel
theorem dX11_lowers_24 : decode cX11_lowers 24 = .ok (.aload_n 0, 1) := by decide +kernel
theorem dX11_lowers_25 : decode cX11_lowers 25 = .ok (.iconst 1, 1) := by decide +kernel
theorem dX11_lowers_26 : decode cX11_lowers 26 = .ok (.invokevirtual 100, 3) := by decide +kernel
theorem dX11_lowers_29 : decode cX11_lowers 29 = .ok (.ifCond .eq 16, 3) := by decide +kernel
theorem dX11_lowers_32 : decode cX11_lowers 32 = .ok (.aload_n 0, 1) := by decide +kernel
theorem dX11_lowers_33 : decode cX11_lowers 33 = .ok (.iconst 0, 1) := by decide +kernel
theorem dX11_lowers_34 : decode cX11_lowers 34 = .ok (.invokevirtual 104, 3) := by decide +kernel
theorem dX11_lowers_37 : decode cX11_lowers 37 = .ok (.aload_n 0, 1) := by decide +kernel
theorem dX11_lowers_38 : decode cX11_lowers 38 = .ok (.iconst 1, 1) := by decide +kernel
theorem dX11_lowers_39 : decode cX11_lowers 39 = .ok (.invokevirtual 104, 3) := by decide +kernel
theorem dX11_lowers_42 : decode cX11_lowers 42 = .ok (.goto (-26), 3) := by decide +kernel
theorem dX11_lowers_45 : decode cX11_lowers 45 = .ok (.aload_n 0, 1) := by decide +kernel
theorem dX11_lowers_46 : decode cX11_lowers 46 = .ok (.iconst 2, 1) := by decide +kernel
theorem dX11_lowers_47 : decode cX11_lowers 47 = .ok (.iconst 0, 1) := by decide +kernel
theorem dX11_lowers_48 : decode cX11_lowers 48 = .ok (.invokevirtual 95, 3) := by decide +kernel
theorem dX11_lowers_51 : decode cX11_lowers 51 = .ok (.aload_n 0, 1) := by decide +kernel
theorem dX11_lowers_52 : decode cX11_lowers 52 = .ok (.iconst 3, 1) := by decide +kernel
theorem dX11_lowers_53 : decode cX11_lowers 53 = .ok (.iconst 1, 1) := by decide +kernel
theorem dX11_lowers_54 : decode cX11_lowers 54 = .ok (.invokevirtual 95, 3) := by decide +kernel
theorem dX11_lowers_57 : decode cX11_lowers 57 = .ok (.aload_n 0, 1) := by decide +kernel
theorem dX11_lowers_58 : decode cX11_lowers 58 = .ok (.getfield 13, 3) := by decide +kernel
theorem dX11_lowers_61 : decode cX11_lowers 61 = .ok (.iconst 2, 1) := by decide +kernel
theorem dX11_lowers_62 : decode cX11_lowers 62 = .ok (.iaload, 1) := by decide +kernel
theorem dX11_lowers_63 : decode cX11_lowers 63 = .ok (.ifCond .le 82, 3) := by decide +kernel
theorem dX11_lowers_66 : decode cX11_lowers 66 = .ok (.aload_n 0, 1) := by decide +kernel
theorem dX11_lowers_67 : decode cX11_lowers 67 = .ok (.iconst 2, 1) := by decide +kernel
theorem dX11_lowers_68 : decode cX11_lowers 68 = .ok (.invokevirtual 100, 3) := by decide +kernel
theorem dX11_lowers_71 : decode cX11_lowers 71 = .ok (.ifCond .eq 11, 3) := by decide +kernel
theorem dX11_lowers_74 : decode cX11_lowers 74 = .ok (.aload_n 0, 1) := by decide +kernel
theorem dX11_lowers_75 : decode cX11_lowers 75 = .ok (.iconst 2, 1) := by decide +kernel
theorem dX11_lowers_76 : decode cX11_lowers 76 = .ok (.invokevirtual 104, 3) := by decide +kernel
theorem dX11_lowers_79 : decode cX11_lowers 79 = .ok (.goto (-13), 3) := by decide +kernel
theorem dX11_lowers_82 : decode cX11_lowers 82 = .ok (.aload_n 0, 1) := by decide +kernel
theorem dX11_lowers_83 : decode cX11_lowers 83 = .ok (.iconst 3, 1) := by decide +kernel
theorem dX11_lowers_84 : decode cX11_lowers 84 = .ok (.invokevirtual 100, 3) := by decide +kernel
theorem dX11_lowers_87 : decode cX11_lowers 87 = .ok (.ifCond .eq 11, 3) := by decide +kernel
theorem dX11_lowers_90 : decode cX11_lowers 90 = .ok (.aload_n 0, 1) := by decide +kernel
theorem dX11_lowers_91 : decode cX11_lowers 91 = .ok (.iconst 3, 1) := by decide +kernel
theorem dX11_lowers_92 : decode cX11_lowers 92 = .ok (.invokevirtual 104, 3) := by decide +kernel
theorem dX11_lowers_95 : decode cX11_lowers 95 = .ok (.goto (-13), 3) := by decide +kernel
theorem dX11_lowers_98 : decode cX11_lowers 98 = .ok (.aload_n 0, 1) := by decide +kernel
theorem dX11_lowers_99 : decode cX11_lowers 99 = .ok (.iconst 2, 1) := by decide +kernel
theorem dX11_lowers_100 : decode cX11_lowers 100 = .ok (.iconst 3, 1) := by decide +kernel
theorem dX11_lowers_101 : decode cX11_lowers 101 = .ok (.invokevirtual 107, 3) := by decide +kernel
theorem dX11_lowers_104 : decode cX11_lowers 104 = .ok (.ifCond .lt 7, 3) := by decide +kernel
theorem dX11_lowers_107 : decode cX11_lowers 107 = .ok (.iconst 2, 1) := by decide +kernel
theorem dX11_lowers_108 : decode cX11_lowers 108 = .ok (.goto 4, 3) := by decide +kernel
theorem dX11_lowers_111 : decode cX11_lowers 111 = .ok (.iconst 3, 1) := by decide +kernel
theorem dX11_lowers_112 : decode cX11_lowers 112 = .ok (.istore_n 1, 1) := by decide +kernel
theorem dX11_lowers_113 : decode cX11_lowers 113 = .ok (.aload_n 0, 1) := by decide +kernel
theorem dX11_lowers_114 : decode cX11_lowers 114 = .ok (.iload_n 1, 1) := by decide +kernel
theorem dX11_lowers_115 : decode cX11_lowers 115 = .ok (.iconst 5, 1) := by decide +kernel
theorem dX11_lowers_116 : decode cX11_lowers 116 = .ok (.iload_n 1, 1) := by decide +kernel
theorem dX11_lowers_117 : decode cX11_lowers 117 = .ok (.isub, 1) := by decide +kernel
theorem dX11_lowers_118 : decode cX11_lowers 118 = .ok (.invokevirtual 111, 3) := by decide +kernel
theorem dX11_lowers_121 : decode cX11_lowers 121 = .ok (.aload_n 0, 1) := by decide +kernel
theorem dX11_lowers_122 : decode cX11_lowers 122 = .ok (.getfield 13, 3) := by decide +kernel
theorem dX11_lowers_125 : decode cX11_lowers 125 = .ok (.iconst 3, 1) := by decide +kernel
theorem dX11_lowers_126 : decode cX11_lowers 126 = .ok (.iaload, 1) := by decide +kernel
theorem dX11_lowers_127 : decode cX11_lowers 127 = .ok (.ifCond .ne 15, 3) := by decide +kernel
theorem dX11_lowers_130 : decode cX11_lowers 130 = .ok (.aload_n 0, 1) := by decide +kernel
theorem dX11_lowers_131 : decode cX11_lowers 131 = .ok (.iconst 3, 1) := by decide +kernel
theorem dX11_lowers_132 : decode cX11_lowers 132 = .ok (.iconst 2, 1) := by decide +kernel
theorem dX11_lowers_133 : decode cX11_lowers 133 = .ok (.invokevirtual 95, 3) := by decide +kernel
theorem dX11_lowers_136 : decode cX11_lowers 136 = .ok (.aload_n 0, 1) := by decide +kernel
theorem dX11_lowers_137 : decode cX11_lowers 137 = .ok (.iconst 2, 1) := by decide +kernel
theorem dX11_lowers_138 : decode cX11_lowers 138 = .ok (.lconst 0, 1) := by decide +kernel
theorem dX11_lowers_139 : decode cX11_lowers 139 = .ok (.invokevirtual 85, 3) := by decide +kernel
theorem dX11_lowers_142 : decode cX11_lowers 142 = .ok (.goto (-85), 3) := by decide +kernel
theorem dX11_lowers_145 : decode cX11_lowers 145 = .ok (.aload_n 0, 1) := by decide +kernel
theorem dX11_lowers_146 : decode cX11_lowers 146 = .ok (.iconst 0, 1) := by decide +kernel
theorem dX11_lowers_147 : decode cX11_lowers 147 = .ok (.invokevirtual 114, 3) := by decide +kernel
theorem dX11_lowers_150 : decode cX11_lowers 150 = .ok (.aload_n 0, 1) := by decide +kernel
theorem dX11_lowers_151 : decode cX11_lowers 151 = .ok (.iconst 1, 1) := by decide +kernel
theorem dX11_lowers_152 : decode cX11_lowers 152 = .ok (.invokevirtual 114, 3) := by decide +kernel
theorem dX11_lowers_155 : decode cX11_lowers 155 = .ok (.return_, 1) := by decide +kernel
theorem dX11_parts_0 : decode cX11_parts 0 = .ok (.iconst 1, 1) := by decide +kernel
theorem dX11_parts_1 : decode cX11_parts 1 = .ok (.istore_n 2, 1) := by decide +kernel
theorem dX11_parts_2 : decode cX11_parts 2 = .ok (.iconst 0, 1) := by decide +kernel
theorem dX11_parts_3 : decode cX11_parts 3 = .ok (.istore_n 3, 1) := by decide +kernel
theorem dX11_parts_4 : decode cX11_parts 4 = .ok (.iload_n 3, 1) := by decide +kernel
theorem dX11_parts_5 : decode cX11_parts 5 = .ok (.iconst 5, 1) := by decide +kernel
theorem dX11_parts_6 : decode cX11_parts 6 = .ok (.if_icmp .ge 24, 3) := by decide +kernel
theorem dX11_parts_9 : decode cX11_parts 9 = .ok (.iload_n 2, 1) := by decide +kernel
theorem dX11_parts_10 : decode cX11_parts 10 = .ok (.iconst 2, 1) := by decide +kernel
theorem dX11_parts_11 : decode cX11_parts 11 = .ok (.aload_n 0, 1) := by decide +kernel
theorem dX11_parts_12 : decode cX11_parts 12 = .ok (.getfield 7, 3) := by decide +kernel
theorem dX11_parts_15 : decode cX11_parts 15 = .ok (.sipush 150, 3) := by decide +kernel
theorem dX11_parts_18 : decode cX11_parts 18 = .ok (.iaload, 1) := by decide +kernel
theorem dX11_parts_19 : decode cX11_parts 19 = .ok (.iload_n 2, 1) := by decide +kernel
theorem dX11_parts_20 : decode cX11_parts 20 = .ok (.imul, 1) := by decide +kernel
theorem dX11_parts_21 : decode cX11_parts 21 = .ok (.isub, 1) := by decide +kernel
theorem dX11_parts_22 : decode cX11_parts 22 = .ok (.imul, 1) := by decide +kernel
theorem dX11_parts_23 : decode cX11_parts 23 = .ok (.istore_n 2, 1) := by decide +kernel
theorem dX11_parts_24 : decode cX11_parts 24 = .ok (.iinc 3 1, 3) := by decide +kernel
theorem dX11_parts_27 : decode cX11_parts 27 = .ok (.goto (-23), 3) := by decide +kernel
theorem dX11_parts_30 : decode cX11_parts 30 = .ok (.aload_n 0, 1) := by decide +kernel
theorem dX11_parts_31 : decode cX11_parts 31 = .ok (.getfield 13, 3) := by decide +kernel
theorem dX11_parts_34 : decode cX11_parts 34 = .ok (.iload_n 1, 1) := by decide +kernel
theorem dX11_parts_35 : decode cX11_parts 35 = .ok (.iaload, 1) := by decide +kernel
theorem dX11_parts_36 : decode cX11_parts 36 = .ok (.istore_n 3, 1) := by decide +kernel
theorem dX11_parts_37 : decode cX11_parts 37 = .ok (.iconst 0, 1) := by decide +kernel
theorem dX11_parts_38 : decode cX11_parts 38 = .ok (.istore 4, 2) := by decide +kernel
theorem dX11_parts_40 : decode cX11_parts 40 = .ok (.iload 4, 2) := by decide +kernel
theorem dX11_parts_42 : decode cX11_parts 42 = .ok (.iload_n 3, 1) := by decide +kernel
theorem dX11_parts_43 : decode cX11_parts 43 = .ok (.if_icmp .ge 149, 3) := by decide +kernel
theorem dX11_parts_46 : decode cX11_parts 46 = .ok (.aload_n 0, 1) := by decide +kernel
theorem dX11_parts_47 : decode cX11_parts 47 = .ok (.getfield 7, 3) := by decide +kernel
theorem dX11_parts_50 : decode cX11_parts 50 = .ok (.bipush 50, 2) := by decide +kernel
theorem dX11_parts_52 : decode cX11_parts 52 = .ok (.iload_n 1, 1) := by decide +kernel
theorem dX11_parts_53 : decode cX11_parts 53 = .ok (.imul, 1) := by decide +kernel
theorem dX11_parts_54 : decode cX11_parts 54 = .ok (.iload 4, 2) := by decide +kernel
theorem dX11_parts_56 : decode cX11_parts 56 = .ok (.iadd, 1) := by decide +kernel
theorem dX11_parts_57 : decode cX11_parts 57 = .ok (.iaload, 1) := by decide +kernel
theorem dX11_parts_58 : decode cX11_parts 58 = .ok (.iload_n 2, 1) := by decide +kernel
theorem dX11_parts_59 : decode cX11_parts 59 = .ok (.imul, 1) := by decide +kernel
theorem dX11_parts_60 : decode cX11_parts 60 = .ok (.ldc 99, 2) := by decide +kernel
theorem dX11_parts_62 : decode cX11_parts 62 = .ok (.iand, 1) := by decide +kernel
theorem dX11_parts_63 : decode cX11_parts 63 = .ok (.istore 5, 2) := by decide +kernel
theorem dX11_parts_65 : decode cX11_parts 65 = .ok (.lconst 0, 1) := by decide +kernel
theorem dX11_parts_66 : decode cX11_parts 66 = .ok (.lstore 6, 2) := by decide +kernel
theorem dX11_parts_68 : decode cX11_parts 68 = .ok (.iconst 0, 1) := by decide +kernel
theorem dX11_parts_69 : decode cX11_parts 69 = .ok (.istore 8, 2) := by decide +kernel
theorem dX11_parts_71 : decode cX11_parts 71 = .ok (.iload 4, 2) := by decide +kernel
theorem dX11_parts_73 : decode cX11_parts 73 = .ok (.iload 8, 2) := by decide +kernel
theorem dX11_parts_75 : decode cX11_parts 75 = .ok (.iadd, 1) := by decide +kernel
theorem dX11_parts_76 : decode cX11_parts 76 = .ok (.iload_n 3, 1) := by decide +kernel
theorem dX11_parts_77 : decode cX11_parts 77 = .ok (.if_icmp .ge 96, 3) := by decide +kernel
theorem dX11_parts_80 : decode cX11_parts 80 = .ok (.iload 8, 2) := by decide +kernel
theorem dX11_parts_82 : decode cX11_parts 82 = .ok (.aload_n 0, 1) := by decide +kernel
theorem dX11_parts_83 : decode cX11_parts 83 = .ok (.getfield 13, 3) := by decide +kernel
theorem dX11_parts_86 : decode cX11_parts 86 = .ok (.iconst 3, 1) := by decide +kernel
theorem dX11_parts_87 : decode cX11_parts 87 = .ok (.iaload, 1) := by decide +kernel
theorem dX11_parts_88 : decode cX11_parts 88 = .ok (.if_icmp .ge 22, 3) := by decide +kernel
theorem dX11_parts_91 : decode cX11_parts 91 = .ok (.iload 5, 2) := by decide +kernel
theorem dX11_parts_93 : decode cX11_parts 93 = .ok (.i2l, 1) := by decide +kernel
theorem dX11_parts_94 : decode cX11_parts 94 = .ok (.aload_n 0, 1) := by decide +kernel
theorem dX11_parts_95 : decode cX11_parts 95 = .ok (.getfield 7, 3) := by decide +kernel
theorem dX11_parts_98 : decode cX11_parts 98 = .ok (.sipush 150, 3) := by decide +kernel
theorem dX11_parts_101 : decode cX11_parts 101 = .ok (.iload 8, 2) := by decide +kernel
theorem dX11_parts_103 : decode cX11_parts 103 = .ok (.iadd, 1) := by decide +kernel
theorem dX11_parts_104 : decode cX11_parts 104 = .ok (.iaload, 1) := by decide +kernel
theorem dX11_parts_105 : decode cX11_parts 105 = .ok (.i2l, 1) := by decide +kernel
theorem dX11_parts_106 : decode cX11_parts 106 = .ok (.lmul, 1) := by decide +kernel
theorem dX11_parts_107 : decode cX11_parts 107 = .ok (.goto 4, 3) := by decide +kernel
theorem dX11_parts_110 : decode cX11_parts 110 = .ok (.lconst 0, 1) := by decide +kernel
theorem dX11_parts_111 : decode cX11_parts 111 = .ok (.lstore 9, 2) := by decide +kernel
theorem dX11_parts_113 : decode cX11_parts 113 = .ok (.aload_n 0, 1) := by decide +kernel
theorem dX11_parts_114 : decode cX11_parts 114 = .ok (.getfield 7, 3) := by decide +kernel
theorem dX11_parts_117 : decode cX11_parts 117 = .ok (.bipush 50, 2) := by decide +kernel
theorem dX11_parts_119 : decode cX11_parts 119 = .ok (.iload_n 1, 1) := by decide +kernel
theorem dX11_parts_120 : decode cX11_parts 120 = .ok (.imul, 1) := by decide +kernel
theorem dX11_parts_121 : decode cX11_parts 121 = .ok (.iload 4, 2) := by decide +kernel
theorem dX11_parts_123 : decode cX11_parts 123 = .ok (.iadd, 1) := by decide +kernel
theorem dX11_parts_124 : decode cX11_parts 124 = .ok (.iload 8, 2) := by decide +kernel
theorem dX11_parts_126 : decode cX11_parts 126 = .ok (.iadd, 1) := by decide +kernel
theorem dX11_parts_127 : decode cX11_parts 127 = .ok (.iaload, 1) := by decide +kernel
theorem dX11_parts_128 : decode cX11_parts 128 = .ok (.i2l, 1) := by decide +kernel
theorem dX11_parts_129 : decode cX11_parts 129 = .ok (.lload 9, 2) := by decide +kernel
theorem dX11_parts_131 : decode cX11_parts 131 = .ok (.lsub, 1) := by decide +kernel
theorem dX11_parts_132 : decode cX11_parts 132 = .ok (.lload 6, 2) := by decide +kernel
theorem dX11_parts_134 : decode cX11_parts 134 = .ok (.lsub, 1) := by decide +kernel
theorem dX11_parts_135 : decode cX11_parts 135 = .ok (.lstore 11, 2) := by decide +kernel
theorem dX11_parts_137 : decode cX11_parts 137 = .ok (.aload_n 0, 1) := by decide +kernel
theorem dX11_parts_138 : decode cX11_parts 138 = .ok (.getfield 7, 3) := by decide +kernel
theorem dX11_parts_141 : decode cX11_parts 141 = .ok (.bipush 50, 2) := by decide +kernel
theorem dX11_parts_143 : decode cX11_parts 143 = .ok (.iload_n 1, 1) := by decide +kernel
theorem dX11_parts_144 : decode cX11_parts 144 = .ok (.imul, 1) := by decide +kernel
theorem dX11_parts_145 : decode cX11_parts 145 = .ok (.iload 4, 2) := by decide +kernel
theorem dX11_parts_147 : decode cX11_parts 147 = .ok (.iadd, 1) := by decide +kernel
theorem dX11_parts_148 : decode cX11_parts 148 = .ok (.iload 8, 2) := by decide +kernel
theorem dX11_parts_150 : decode cX11_parts 150 = .ok (.iadd, 1) := by decide +kernel
theorem dX11_parts_151 : decode cX11_parts 151 = .ok (.lload 11, 2) := by decide +kernel
theorem dX11_parts_153 : decode cX11_parts 153 = .ok (.ldc2_w 89, 3) := by decide +kernel
theorem dX11_parts_156 : decode cX11_parts 156 = .ok (.land, 1) := by decide +kernel
theorem dX11_parts_157 : decode cX11_parts 157 = .ok (.l2i, 1) := by decide +kernel
theorem dX11_parts_158 : decode cX11_parts 158 = .ok (.iastore, 1) := by decide +kernel
theorem dX11_parts_159 : decode cX11_parts 159 = .ok (.lload 11, 2) := by decide +kernel
theorem dX11_parts_161 : decode cX11_parts 161 = .ok (.bipush 30, 2) := by decide +kernel
theorem dX11_parts_163 : decode cX11_parts 163 = .ok (.lshr, 1) := by decide +kernel
theorem dX11_parts_164 : decode cX11_parts 164 = .ok (.lneg, 1) := by decide +kernel
theorem dX11_parts_165 : decode cX11_parts 165 = .ok (.lstore 6, 2) := by decide +kernel
theorem dX11_parts_167 : decode cX11_parts 167 = .ok (.iinc 8 1, 3) := by decide +kernel
theorem dX11_parts_170 : decode cX11_parts 170 = .ok (.goto (-99), 3) := by decide +kernel
theorem dX11_parts_173 : decode cX11_parts 173 = .ok (.aload_n 0, 1) := by decide +kernel
theorem dX11_parts_174 : decode cX11_parts 174 = .ok (.getfield 7, 3) := by decide +kernel
theorem dX11_parts_177 : decode cX11_parts 177 = .ok (.sipush 200, 3) := by decide +kernel
theorem dX11_parts_180 : decode cX11_parts 180 = .ok (.iload 4, 2) := by decide +kernel
theorem dX11_parts_182 : decode cX11_parts 182 = .ok (.iadd, 1) := by decide +kernel
theorem dX11_parts_183 : decode cX11_parts 183 = .ok (.iload 5, 2) := by decide +kernel
theorem dX11_parts_185 : decode cX11_parts 185 = .ok (.iastore, 1) := by decide +kernel
theorem dX11_parts_186 : decode cX11_parts 186 = .ok (.iinc 4 1, 3) := by decide +kernel
theorem dX11_parts_189 : decode cX11_parts 189 = .ok (.goto (-149), 3) := by decide +kernel
theorem dX11_parts_192 : decode cX11_parts 192 = .ok (.iconst 0, 1) := by decide +kernel
theorem dX11_parts_193 : decode cX11_parts 193 = .ok (.istore 4, 2) := by decide +kernel
theorem dX11_parts_195 : decode cX11_parts 195 = .ok (.iload 4, 2) := by decide +kernel
theorem dX11_parts_197 : decode cX11_parts 197 = .ok (.iload_n 3, 1) := by decide +kernel
theorem dX11_parts_198 : decode cX11_parts 198 = .ok (.if_icmp .ge 32, 3) := by decide +kernel
theorem dX11_parts_201 : decode cX11_parts 201 = .ok (.aload_n 0, 1) := by decide +kernel
theorem dX11_parts_202 : decode cX11_parts 202 = .ok (.getfield 7, 3) := by decide +kernel
theorem dX11_parts_205 : decode cX11_parts 205 = .ok (.bipush 50, 2) := by decide +kernel
theorem dX11_parts_207 : decode cX11_parts 207 = .ok (.iload_n 1, 1) := by decide +kernel
theorem dX11_parts_208 : decode cX11_parts 208 = .ok (.imul, 1) := by decide +kernel
theorem dX11_parts_209 : decode cX11_parts 209 = .ok (.iload 4, 2) := by decide +kernel
theorem dX11_parts_211 : decode cX11_parts 211 = .ok (.iadd, 1) := by decide +kernel
theorem dX11_parts_212 : decode cX11_parts 212 = .ok (.aload_n 0, 1) := by decide +kernel
theorem dX11_parts_213 : decode cX11_parts 213 = .ok (.getfield 7, 3) := by decide +kernel
theorem dX11_parts_216 : decode cX11_parts 216 = .ok (.sipush 200, 3) := by decide +kernel
theorem dX11_parts_219 : decode cX11_parts 219 = .ok (.iload 4, 2) := by decide +kernel
theorem dX11_parts_221 : decode cX11_parts 221 = .ok (.iadd, 1) := by decide +kernel
theorem dX11_parts_222 : decode cX11_parts 222 = .ok (.iaload, 1) := by decide +kernel
theorem dX11_parts_223 : decode cX11_parts 223 = .ok (.iastore, 1) := by decide +kernel
theorem dX11_parts_224 : decode cX11_parts 224 = .ok (.iinc 4 1, 3) := by decide +kernel
theorem dX11_parts_227 : decode cX11_parts 227 = .ok (.goto (-32), 3) := by decide +kernel
theorem dX11_parts_230 : decode cX11_parts 230 = .ok (.aload_n 0, 1) := by decide +kernel
theorem dX11_parts_231 : decode cX11_parts 231 = .ok (.iload_n 1, 1) := by decide +kernel
theorem dX11_parts_232 : decode cX11_parts 232 = .ok (.invokevirtual 91, 3) := by decide +kernel
theorem dX11_parts_235 : decode cX11_parts 235 = .ok (.return_, 1) := by decide +kernel
theorem dX11_told_0 : decode cX11_told 0 = .ok (.aload_n 0, 1) := by decide +kernel
theorem dX11_told_1 : decode cX11_told 1 = .ok (.iconst 0, 1) := by decide +kernel
theorem dX11_told_2 : decode cX11_told 2 = .ok (.lload_n 1, 1) := by decide +kernel
theorem dX11_told_3 : decode cX11_told 3 = .ok (.invokevirtual 85, 3) := by decide +kernel
theorem dX11_told_6 : decode cX11_told 6 = .ok (.aload_n 0, 1) := by decide +kernel
theorem dX11_told_7 : decode cX11_told 7 = .ok (.iconst 1, 1) := by decide +kernel
theorem dX11_told_8 : decode cX11_told 8 = .ok (.lload_n 3, 1) := by decide +kernel
theorem dX11_told_9 : decode cX11_told 9 = .ok (.invokevirtual 85, 3) := by decide +kernel
theorem dX11_told_12 : decode cX11_told 12 = .ok (.aload_n 0, 1) := by decide +kernel
theorem dX11_told_13 : decode cX11_told 13 = .ok (.invokevirtual 117, 3) := by decide +kernel
theorem dX11_told_16 : decode cX11_told 16 = .ok (.iconst 1, 1) := by decide +kernel
theorem dX11_told_17 : decode cX11_told 17 = .ok (.ireturn, 1) := by decide +kernel
theorem dX11_sign_0 : decode cX11_sign 0 = .ok (.iload_n 1, 1) := by decide +kernel
theorem dX11_sign_1 : decode cX11_sign 1 = .ok (.ifCond .ne 20, 3) := by decide +kernel
theorem dX11_sign_4 : decode cX11_sign 4 = .ok (.aload_n 0, 1) := by decide +kernel
theorem dX11_sign_5 : decode cX11_sign 5 = .ok (.getfield 13, 3) := by decide +kernel
theorem dX11_sign_8 : decode cX11_sign 8 = .ok (.iconst 0, 1) := by decide +kernel
theorem dX11_sign_9 : decode cX11_sign 9 = .ok (.iaload, 1) := by decide +kernel
theorem dX11_sign_10 : decode cX11_sign 10 = .ok (.ifCond .le 7, 3) := by decide +kernel
theorem dX11_sign_13 : decode cX11_sign 13 = .ok (.iconst 1, 1) := by decide +kernel
theorem dX11_sign_14 : decode cX11_sign 14 = .ok (.goto 37, 3) := by decide +kernel
theorem dX11_sign_17 : decode cX11_sign 17 = .ok (.iconst 0, 1) := by decide +kernel
theorem dX11_sign_18 : decode cX11_sign 18 = .ok (.goto 33, 3) := by decide +kernel
theorem dX11_sign_21 : decode cX11_sign 21 = .ok (.iload_n 1, 1) := by decide +kernel
theorem dX11_sign_22 : decode cX11_sign 22 = .ok (.iconst 1, 1) := by decide +kernel
theorem dX11_sign_23 : decode cX11_sign 23 = .ok (.if_icmp .ne 12, 3) := by decide +kernel
theorem dX11_sign_26 : decode cX11_sign 26 = .ok (.aload_n 0, 1) := by decide +kernel
theorem dX11_sign_27 : decode cX11_sign 27 = .ok (.getfield 13, 3) := by decide +kernel
theorem dX11_sign_30 : decode cX11_sign 30 = .ok (.iconst 0, 1) := by decide +kernel
theorem dX11_sign_31 : decode cX11_sign 31 = .ok (.iaload, 1) := by decide +kernel
theorem dX11_sign_32 : decode cX11_sign 32 = .ok (.goto 19, 3) := by decide +kernel
theorem dX11_sign_35 : decode cX11_sign 35 = .ok (.iload_n 1, 1) := by decide +kernel
theorem dX11_sign_36 : decode cX11_sign 36 = .ok (.iconst 2, 1) := by decide +kernel
theorem dX11_sign_37 : decode cX11_sign 37 = .ok (.if_icmp .ne 12, 3) := by decide +kernel
theorem dX11_sign_40 : decode cX11_sign 40 = .ok (.aload_n 0, 1) := by decide +kernel
theorem dX11_sign_41 : decode cX11_sign 41 = .ok (.getfield 13, 3) := by decide +kernel
theorem dX11_sign_44 : decode cX11_sign 44 = .ok (.iconst 1, 1) := by decide +kernel
theorem dX11_sign_45 : decode cX11_sign 45 = .ok (.iaload, 1) := by decide +kernel
theorem dX11_sign_46 : decode cX11_sign 46 = .ok (.goto 5, 3) := by decide +kernel
theorem dX11_sign_49 : decode cX11_sign 49 = .ok (.bipush (-2), 2) := by decide +kernel
theorem dX11_sign_51 : decode cX11_sign 51 = .ok (.ireturn, 1) := by decide +kernel
theorem dX11_limb_0 : decode cX11_limb 0 = .ok (.iload_n 1, 1) := by decide +kernel
theorem dX11_limb_1 : decode cX11_limb 1 = .ok (.i2l, 1) := by decide +kernel
theorem dX11_limb_2 : decode cX11_limb 2 = .ok (.lconst 0, 1) := by decide +kernel
theorem dX11_limb_3 : decode cX11_limb 3 = .ok (.lconst 1, 1) := by decide +kernel
theorem dX11_limb_4 : decode cX11_limb 4 = .ok (.invokestatic 120, 3) := by decide +kernel
theorem dX11_limb_7 : decode cX11_limb 7 = .ok (.ifCond .eq 7, 3) := by decide +kernel
theorem dX11_limb_10 : decode cX11_limb 10 = .ok (.iload_n 2, 1) := by decide +kernel
theorem dX11_limb_11 : decode cX11_limb 11 = .ok (.ifCond .ge 6, 3) := by decide +kernel
theorem dX11_limb_14 : decode cX11_limb 14 = .ok (.bipush (-2), 2) := by decide +kernel
theorem dX11_limb_16 : decode cX11_limb 16 = .ok (.ireturn, 1) := by decide +kernel
theorem dX11_limb_17 : decode cX11_limb 17 = .ok (.iload_n 2, 1) := by decide +kernel
theorem dX11_limb_18 : decode cX11_limb 18 = .ok (.aload_n 0, 1) := by decide +kernel
theorem dX11_limb_19 : decode cX11_limb 19 = .ok (.getfield 13, 3) := by decide +kernel
theorem dX11_limb_22 : decode cX11_limb 22 = .ok (.iload_n 1, 1) := by decide +kernel
theorem dX11_limb_23 : decode cX11_limb 23 = .ok (.iaload, 1) := by decide +kernel
theorem dX11_limb_24 : decode cX11_limb 24 = .ok (.if_icmp .ge 17, 3) := by decide +kernel
theorem dX11_limb_27 : decode cX11_limb 27 = .ok (.aload_n 0, 1) := by decide +kernel
theorem dX11_limb_28 : decode cX11_limb 28 = .ok (.getfield 7, 3) := by decide +kernel
theorem dX11_limb_31 : decode cX11_limb 31 = .ok (.bipush 50, 2) := by decide +kernel
theorem dX11_limb_33 : decode cX11_limb 33 = .ok (.iload_n 1, 1) := by decide +kernel
theorem dX11_limb_34 : decode cX11_limb 34 = .ok (.imul, 1) := by decide +kernel
theorem dX11_limb_35 : decode cX11_limb 35 = .ok (.iload_n 2, 1) := by decide +kernel
theorem dX11_limb_36 : decode cX11_limb 36 = .ok (.iadd, 1) := by decide +kernel
theorem dX11_limb_37 : decode cX11_limb 37 = .ok (.iaload, 1) := by decide +kernel
theorem dX11_limb_38 : decode cX11_limb 38 = .ok (.goto 4, 3) := by decide +kernel
theorem dX11_limb_41 : decode cX11_limb 41 = .ok (.iconst (-1), 1) := by decide +kernel
theorem dX11_limb_42 : decode cX11_limb 42 = .ok (.ireturn, 1) := by decide +kernel
theorem dX11_is_0 : decode cX11_is 0 = .ok (.iload_n 2, 1) := by decide +kernel
theorem dX11_is_1 : decode cX11_is 1 = .ok (.i2l, 1) := by decide +kernel
theorem dX11_is_2 : decode cX11_is 2 = .ok (.lconst 0, 1) := by decide +kernel
theorem dX11_is_3 : decode cX11_is 3 = .ok (.aload_n 0, 1) := by decide +kernel
theorem dX11_is_4 : decode cX11_is 4 = .ok (.getfield 16, 3) := by decide +kernel
theorem dX11_is_7 : decode cX11_is 7 = .ok (.iload_n 1, 1) := by decide +kernel
theorem dX11_is_8 : decode cX11_is 8 = .ok (.iaload, 1) := by decide +kernel
theorem dX11_is_9 : decode cX11_is 9 = .ok (.iconst 1, 1) := by decide +kernel
theorem dX11_is_10 : decode cX11_is 10 = .ok (.isub, 1) := by decide +kernel
theorem dX11_is_11 : decode cX11_is 11 = .ok (.i2l, 1) := by decide +kernel
theorem dX11_is_12 : decode cX11_is 12 = .ok (.invokestatic 120, 3) := by decide +kernel
theorem dX11_is_15 : decode cX11_is 15 = .ok (.ireturn, 1) := by decide +kernel
theorem dX11_next_0 : decode cX11_next 0 = .ok (.aload_n 0, 1) := by decide +kernel
theorem dX11_next_1 : decode cX11_next 1 = .ok (.getfield 16, 3) := by decide +kernel
theorem dX11_next_4 : decode cX11_next 4 = .ok (.iload_n 1, 1) := by decide +kernel
theorem dX11_next_5 : decode cX11_next 5 = .ok (.dup2, 1) := by decide +kernel
theorem dX11_next_6 : decode cX11_next 6 = .ok (.iaload, 1) := by decide +kernel
theorem dX11_next_7 : decode cX11_next 7 = .ok (.iconst 1, 1) := by decide +kernel
theorem dX11_next_8 : decode cX11_next 8 = .ok (.iadd, 1) := by decide +kernel
theorem dX11_next_9 : decode cX11_next 9 = .ok (.iastore, 1) := by decide +kernel
theorem dX11_next_10 : decode cX11_next 10 = .ok (.aload_n 0, 1) := by decide +kernel
theorem dX11_next_11 : decode cX11_next 11 = .ok (.getfield 16, 3) := by decide +kernel
theorem dX11_next_14 : decode cX11_next 14 = .ok (.iload_n 1, 1) := by decide +kernel
theorem dX11_next_15 : decode cX11_next 15 = .ok (.iaload, 1) := by decide +kernel
theorem dX11_next_16 : decode cX11_next 16 = .ok (.iconst 1, 1) := by decide +kernel
theorem dX11_next_17 : decode cX11_next 17 = .ok (.isub, 1) := by decide +kernel
theorem dX11_next_18 : decode cX11_next 18 = .ok (.ireturn, 1) := by decide +kernel
theorem dX11_word_0 : decode cX11_word 0 = .ok (.iload_n 1, 1) := by decide +kernel
theorem dX11_word_1 : decode cX11_word 1 = .ok (.i2l, 1) := by decide +kernel
theorem dX11_word_2 : decode cX11_word 2 = .ok (.lconst 0, 1) := by decide +kernel
theorem dX11_word_3 : decode cX11_word 3 = .ok (.ldc2_w 124, 3) := by decide +kernel
theorem dX11_word_6 : decode cX11_word 6 = .ok (.invokestatic 120, 3) := by decide +kernel
theorem dX11_word_9 : decode cX11_word 9 = .ok (.ifCond .eq 15, 3) := by decide +kernel
theorem dX11_word_12 : decode cX11_word 12 = .ok (.iload_n 2, 1) := by decide +kernel
theorem dX11_word_13 : decode cX11_word 13 = .ok (.i2l, 1) := by decide +kernel
theorem dX11_word_14 : decode cX11_word 14 = .ok (.lconst 0, 1) := by decide +kernel
theorem dX11_word_15 : decode cX11_word 15 = .ok (.ldc2_w 126, 3) := by decide +kernel
theorem dX11_word_18 : decode cX11_word 18 = .ok (.invokestatic 120, 3) := by decide +kernel
theorem dX11_word_21 : decode cX11_word 21 = .ok (.ifCond .ne 6, 3) := by decide +kernel
theorem dX11_word_24 : decode cX11_word 24 = .ok (.bipush (-2), 2) := by decide +kernel
theorem dX11_word_26 : decode cX11_word 26 = .ok (.ireturn, 1) := by decide +kernel
theorem dX11_word_27 : decode cX11_word 27 = .ok (.aload_n 0, 1) := by decide +kernel
theorem dX11_word_28 : decode cX11_word 28 = .ok (.getfield 16, 3) := by decide +kernel
theorem dX11_word_31 : decode cX11_word 31 = .ok (.iconst 0, 1) := by decide +kernel
theorem dX11_word_32 : decode cX11_word 32 = .ok (.iaload, 1) := by decide +kernel
theorem dX11_word_33 : decode cX11_word 33 = .ok (.bipush 8, 2) := by decide +kernel
theorem dX11_word_35 : decode cX11_word 35 = .ok (.if_icmp .ne 6, 3) := by decide +kernel
theorem dX11_word_38 : decode cX11_word 38 = .ok (.bipush (-4), 2) := by decide +kernel
theorem dX11_word_40 : decode cX11_word 40 = .ok (.ireturn, 1) := by decide +kernel
theorem dX11_word_41 : decode cX11_word 41 = .ok (.aload_n 0, 1) := by decide +kernel
theorem dX11_word_42 : decode cX11_word 42 = .ok (.getfield 19, 3) := by decide +kernel
theorem dX11_word_45 : decode cX11_word 45 = .ok (.aload_n 0, 1) := by decide +kernel
theorem dX11_word_46 : decode cX11_word 46 = .ok (.getfield 16, 3) := by decide +kernel
theorem dX11_word_49 : decode cX11_word 49 = .ok (.iconst 0, 1) := by decide +kernel
theorem dX11_word_50 : decode cX11_word 50 = .ok (.iaload, 1) := by decide +kernel
theorem dX11_word_51 : decode cX11_word 51 = .ok (.iload_n 1, 1) := by decide +kernel
theorem dX11_word_52 : decode cX11_word 52 = .ok (.iastore, 1) := by decide +kernel
theorem dX11_word_53 : decode cX11_word 53 = .ok (.aload_n 0, 1) := by decide +kernel
theorem dX11_word_54 : decode cX11_word 54 = .ok (.getfield 22, 3) := by decide +kernel
theorem dX11_word_57 : decode cX11_word 57 = .ok (.aload_n 0, 1) := by decide +kernel
theorem dX11_word_58 : decode cX11_word 58 = .ok (.getfield 16, 3) := by decide +kernel
theorem dX11_word_61 : decode cX11_word 61 = .ok (.iconst 0, 1) := by decide +kernel
theorem dX11_word_62 : decode cX11_word 62 = .ok (.iaload, 1) := by decide +kernel
theorem dX11_word_63 : decode cX11_word 63 = .ok (.iload_n 2, 1) := by decide +kernel
theorem dX11_word_64 : decode cX11_word 64 = .ok (.iastore, 1) := by decide +kernel
theorem dX11_word_65 : decode cX11_word 65 = .ok (.aload_n 0, 1) := by decide +kernel
theorem dX11_word_66 : decode cX11_word 66 = .ok (.iconst 0, 1) := by decide +kernel
theorem dX11_word_67 : decode cX11_word 67 = .ok (.invokevirtual 128, 3) := by decide +kernel
theorem dX11_word_70 : decode cX11_word 70 = .ok (.ireturn, 1) := by decide +kernel
theorem dX11_hand_0 : decode cX11_hand 0 = .ok (.iload_n 1, 1) := by decide +kernel
theorem dX11_hand_1 : decode cX11_hand 1 = .ok (.i2l, 1) := by decide +kernel
theorem dX11_hand_2 : decode cX11_hand 2 = .ok (.ldc2_w 132, 3) := by decide +kernel
theorem dX11_hand_5 : decode cX11_hand 5 = .ok (.aload_n 0, 1) := by decide +kernel
theorem dX11_hand_6 : decode cX11_hand 6 = .ok (.getfield 16, 3) := by decide +kernel
theorem dX11_hand_9 : decode cX11_hand 9 = .ok (.iconst 1, 1) := by decide +kernel
theorem dX11_hand_10 : decode cX11_hand 10 = .ok (.iaload, 1) := by decide +kernel
theorem dX11_hand_11 : decode cX11_hand 11 = .ok (.iconst 1, 1) := by decide +kernel
theorem dX11_hand_12 : decode cX11_hand 12 = .ok (.isub, 1) := by decide +kernel
theorem dX11_hand_13 : decode cX11_hand 13 = .ok (.i2l, 1) := by decide +kernel
theorem dX11_hand_14 : decode cX11_hand 14 = .ok (.invokestatic 120, 3) := by decide +kernel
theorem dX11_hand_17 : decode cX11_hand 17 = .ok (.ifCond .ne 6, 3) := by decide +kernel
theorem dX11_hand_20 : decode cX11_hand 20 = .ok (.bipush (-2), 2) := by decide +kernel
theorem dX11_hand_22 : decode cX11_hand 22 = .ok (.ireturn, 1) := by decide +kernel
theorem dX11_hand_23 : decode cX11_hand 23 = .ok (.aload_n 0, 1) := by decide +kernel
theorem dX11_hand_24 : decode cX11_hand 24 = .ok (.getfield 16, 3) := by decide +kernel
theorem dX11_hand_27 : decode cX11_hand 27 = .ok (.iconst 1, 1) := by decide +kernel
theorem dX11_hand_28 : decode cX11_hand 28 = .ok (.iaload, 1) := by decide +kernel
theorem dX11_hand_29 : decode cX11_hand 29 = .ok (.bipush 6, 2) := by decide +kernel
theorem dX11_hand_31 : decode cX11_hand 31 = .ok (.if_icmp .ne 6, 3) := by decide +kernel
theorem dX11_hand_34 : decode cX11_hand 34 = .ok (.bipush (-4), 2) := by decide +kernel
theorem dX11_hand_36 : decode cX11_hand 36 = .ok (.ireturn, 1) := by decide +kernel
theorem dX11_hand_37 : decode cX11_hand 37 = .ok (.aload_n 0, 1) := by decide +kernel
theorem dX11_hand_38 : decode cX11_hand 38 = .ok (.getfield 25, 3) := by decide +kernel
theorem dX11_hand_41 : decode cX11_hand 41 = .ok (.aload_n 0, 1) := by decide +kernel
theorem dX11_hand_42 : decode cX11_hand 42 = .ok (.getfield 16, 3) := by decide +kernel
theorem dX11_hand_45 : decode cX11_hand 45 = .ok (.iconst 1, 1) := by decide +kernel
theorem dX11_hand_46 : decode cX11_hand 46 = .ok (.iaload, 1) := by decide +kernel
theorem dX11_hand_47 : decode cX11_hand 47 = .ok (.iload_n 1, 1) := by decide +kernel
theorem dX11_hand_48 : decode cX11_hand 48 = .ok (.iastore, 1) := by decide +kernel
theorem dX11_hand_49 : decode cX11_hand 49 = .ok (.aload_n 0, 1) := by decide +kernel
theorem dX11_hand_50 : decode cX11_hand 50 = .ok (.iconst 1, 1) := by decide +kernel
theorem dX11_hand_51 : decode cX11_hand 51 = .ok (.invokevirtual 128, 3) := by decide +kernel
theorem dX11_hand_54 : decode cX11_hand 54 = .ok (.ireturn, 1) := by decide +kernel
theorem dX11_pupil_0 : decode cX11_pupil 0 = .ok (.iload_n 1, 1) := by decide +kernel
theorem dX11_pupil_1 : decode cX11_pupil 1 = .ok (.i2l, 1) := by decide +kernel
theorem dX11_pupil_2 : decode cX11_pupil 2 = .ok (.lconst 1, 1) := by decide +kernel
theorem dX11_pupil_3 : decode cX11_pupil 3 = .ok (.ldc2_w 126, 3) := by decide +kernel
theorem dX11_pupil_6 : decode cX11_pupil 6 = .ok (.invokestatic 120, 3) := by decide +kernel
theorem dX11_pupil_9 : decode cX11_pupil 9 = .ok (.ifCond .eq 17, 3) := by decide +kernel
theorem dX11_pupil_12 : decode cX11_pupil 12 = .ok (.iload_n 2, 1) := by decide +kernel
theorem dX11_pupil_13 : decode cX11_pupil 13 = .ok (.i2l, 1) := by decide +kernel
theorem dX11_pupil_14 : decode cX11_pupil 14 = .ok (.ldc2_w 132, 3) := by decide +kernel
theorem dX11_pupil_17 : decode cX11_pupil 17 = .ok (.ldc2_w 134, 3) := by decide +kernel
theorem dX11_pupil_20 : decode cX11_pupil 20 = .ok (.invokestatic 120, 3) := by decide +kernel
theorem dX11_pupil_23 : decode cX11_pupil 23 = .ok (.ifCond .ne 6, 3) := by decide +kernel
theorem dX11_pupil_26 : decode cX11_pupil 26 = .ok (.bipush (-2), 2) := by decide +kernel
theorem dX11_pupil_28 : decode cX11_pupil 28 = .ok (.ireturn, 1) := by decide +kernel
theorem dX11_pupil_29 : decode cX11_pupil 29 = .ok (.aload_n 0, 1) := by decide +kernel
theorem dX11_pupil_30 : decode cX11_pupil 30 = .ok (.getfield 16, 3) := by decide +kernel
theorem dX11_pupil_33 : decode cX11_pupil 33 = .ok (.iconst 2, 1) := by decide +kernel
theorem dX11_pupil_34 : decode cX11_pupil 34 = .ok (.iaload, 1) := by decide +kernel
theorem dX11_pupil_35 : decode cX11_pupil 35 = .ok (.bipush 8, 2) := by decide +kernel
theorem dX11_pupil_37 : decode cX11_pupil 37 = .ok (.if_icmp .ne 6, 3) := by decide +kernel
theorem dX11_pupil_40 : decode cX11_pupil 40 = .ok (.bipush (-4), 2) := by decide +kernel
theorem dX11_pupil_42 : decode cX11_pupil 42 = .ok (.ireturn, 1) := by decide +kernel
theorem dX11_pupil_43 : decode cX11_pupil 43 = .ok (.aload_n 0, 1) := by decide +kernel
theorem dX11_pupil_44 : decode cX11_pupil 44 = .ok (.getfield 28, 3) := by decide +kernel
theorem dX11_pupil_47 : decode cX11_pupil 47 = .ok (.aload_n 0, 1) := by decide +kernel
theorem dX11_pupil_48 : decode cX11_pupil 48 = .ok (.getfield 16, 3) := by decide +kernel
theorem dX11_pupil_51 : decode cX11_pupil 51 = .ok (.iconst 2, 1) := by decide +kernel
theorem dX11_pupil_52 : decode cX11_pupil 52 = .ok (.iaload, 1) := by decide +kernel
theorem dX11_pupil_53 : decode cX11_pupil 53 = .ok (.iload_n 1, 1) := by decide +kernel
theorem dX11_pupil_54 : decode cX11_pupil 54 = .ok (.iastore, 1) := by decide +kernel
theorem dX11_pupil_55 : decode cX11_pupil 55 = .ok (.aload_n 0, 1) := by decide +kernel
theorem dX11_pupil_56 : decode cX11_pupil 56 = .ok (.getfield 31, 3) := by decide +kernel
theorem dX11_pupil_59 : decode cX11_pupil 59 = .ok (.aload_n 0, 1) := by decide +kernel
theorem dX11_pupil_60 : decode cX11_pupil 60 = .ok (.getfield 16, 3) := by decide +kernel
theorem dX11_pupil_63 : decode cX11_pupil 63 = .ok (.iconst 2, 1) := by decide +kernel
theorem dX11_pupil_64 : decode cX11_pupil 64 = .ok (.iaload, 1) := by decide +kernel
theorem dX11_pupil_65 : decode cX11_pupil 65 = .ok (.iload_n 2, 1) := by decide +kernel
theorem dX11_pupil_66 : decode cX11_pupil 66 = .ok (.iastore, 1) := by decide +kernel
theorem dX11_pupil_67 : decode cX11_pupil 67 = .ok (.aload_n 0, 1) := by decide +kernel
theorem dX11_pupil_68 : decode cX11_pupil 68 = .ok (.iconst 2, 1) := by decide +kernel
theorem dX11_pupil_69 : decode cX11_pupil 69 = .ok (.invokevirtual 128, 3) := by decide +kernel
theorem dX11_pupil_72 : decode cX11_pupil 72 = .ok (.ireturn, 1) := by decide +kernel
theorem dX11_became_0 : decode cX11_became 0 = .ok (.aload_n 0, 1) := by decide +kernel
theorem dX11_became_1 : decode cX11_became 1 = .ok (.iconst 2, 1) := by decide +kernel
theorem dX11_became_2 : decode cX11_became 2 = .ok (.iload_n 1, 1) := by decide +kernel
theorem dX11_became_3 : decode cX11_became 3 = .ok (.invokevirtual 136, 3) := by decide +kernel
theorem dX11_became_6 : decode cX11_became 6 = .ok (.ifCond .eq 17, 3) := by decide +kernel
theorem dX11_became_9 : decode cX11_became 9 = .ok (.iload_n 2, 1) := by decide +kernel
theorem dX11_became_10 : decode cX11_became 10 = .ok (.i2l, 1) := by decide +kernel
theorem dX11_became_11 : decode cX11_became 11 = .ok (.ldc2_w 132, 3) := by decide +kernel
theorem dX11_became_14 : decode cX11_became 14 = .ok (.ldc2_w 134, 3) := by decide +kernel
theorem dX11_became_17 : decode cX11_became 17 = .ok (.invokestatic 120, 3) := by decide +kernel
theorem dX11_became_20 : decode cX11_became 20 = .ok (.ifCond .ne 6, 3) := by decide +kernel
theorem dX11_became_23 : decode cX11_became 23 = .ok (.bipush (-10), 2) := by decide +kernel
theorem dX11_became_25 : decode cX11_became 25 = .ok (.ireturn, 1) := by decide +kernel
theorem dX11_became_26 : decode cX11_became 26 = .ok (.aload_n 0, 1) := by decide +kernel
theorem dX11_became_27 : decode cX11_became 27 = .ok (.getfield 31, 3) := by decide +kernel
theorem dX11_became_30 : decode cX11_became 30 = .ok (.iload_n 1, 1) := by decide +kernel
theorem dX11_became_31 : decode cX11_became 31 = .ok (.iaload, 1) := by decide +kernel
theorem dX11_became_32 : decode cX11_became 32 = .ok (.istore_n 3, 1) := by decide +kernel
theorem dX11_became_33 : decode cX11_became 33 = .ok (.aload_n 0, 1) := by decide +kernel
theorem dX11_became_34 : decode cX11_became 34 = .ok (.getfield 31, 3) := by decide +kernel
theorem dX11_became_37 : decode cX11_became 37 = .ok (.iload_n 1, 1) := by decide +kernel
theorem dX11_became_38 : decode cX11_became 38 = .ok (.iload_n 2, 1) := by decide +kernel
theorem dX11_became_39 : decode cX11_became 39 = .ok (.iastore, 1) := by decide +kernel
theorem dX11_became_40 : decode cX11_became 40 = .ok (.iload_n 3, 1) := by decide +kernel
theorem dX11_became_41 : decode cX11_became 41 = .ok (.ireturn, 1) := by decide +kernel
theorem dX11_letter_0 : decode cX11_letter 0 = .ok (.aload_n 0, 1) := by decide +kernel
theorem dX11_letter_1 : decode cX11_letter 1 = .ok (.iconst 1, 1) := by decide +kernel
theorem dX11_letter_2 : decode cX11_letter 2 = .ok (.iload_n 1, 1) := by decide +kernel
theorem dX11_letter_3 : decode cX11_letter 3 = .ok (.invokevirtual 136, 3) := by decide +kernel
theorem dX11_letter_6 : decode cX11_letter 6 = .ok (.ifCond .eq 24, 3) := by decide +kernel
theorem dX11_letter_9 : decode cX11_letter 9 = .ok (.aload_n 0, 1) := by decide +kernel
theorem dX11_letter_10 : decode cX11_letter 10 = .ok (.iconst 2, 1) := by decide +kernel
theorem dX11_letter_11 : decode cX11_letter 11 = .ok (.iload_n 2, 1) := by decide +kernel
theorem dX11_letter_12 : decode cX11_letter 12 = .ok (.invokevirtual 136, 3) := by decide +kernel
theorem dX11_letter_15 : decode cX11_letter 15 = .ok (.ifCond .eq 15, 3) := by decide +kernel
theorem dX11_letter_18 : decode cX11_letter 18 = .ok (.iload_n 3, 1) := by decide +kernel
theorem dX11_letter_19 : decode cX11_letter 19 = .ok (.i2l, 1) := by decide +kernel
theorem dX11_letter_20 : decode cX11_letter 20 = .ok (.lconst 0, 1) := by decide +kernel
theorem dX11_letter_21 : decode cX11_letter 21 = .ok (.ldc2_w 140, 3) := by decide +kernel
theorem dX11_letter_24 : decode cX11_letter 24 = .ok (.invokestatic 120, 3) := by decide +kernel
theorem dX11_letter_27 : decode cX11_letter 27 = .ok (.ifCond .ne 6, 3) := by decide +kernel
theorem dX11_letter_30 : decode cX11_letter 30 = .ok (.bipush (-2), 2) := by decide +kernel
theorem dX11_letter_32 : decode cX11_letter 32 = .ok (.ireturn, 1) := by decide +kernel
theorem dX11_letter_33 : decode cX11_letter 33 = .ok (.aload_n 0, 1) := by decide +kernel
theorem dX11_letter_34 : decode cX11_letter 34 = .ok (.getfield 16, 3) := by decide +kernel
theorem dX11_letter_37 : decode cX11_letter 37 = .ok (.iconst 3, 1) := by decide +kernel
theorem dX11_letter_38 : decode cX11_letter 38 = .ok (.iaload, 1) := by decide +kernel
theorem dX11_letter_39 : decode cX11_letter 39 = .ok (.bipush 30, 2) := by decide +kernel
theorem dX11_letter_41 : decode cX11_letter 41 = .ok (.if_icmp .ne 6, 3) := by decide +kernel
theorem dX11_letter_44 : decode cX11_letter 44 = .ok (.bipush (-4), 2) := by decide +kernel
theorem dX11_letter_46 : decode cX11_letter 46 = .ok (.ireturn, 1) := by decide +kernel
theorem dX11_letter_47 : decode cX11_letter 47 = .ok (.aload_n 0, 1) := by decide +kernel
theorem dX11_letter_48 : decode cX11_letter 48 = .ok (.getfield 34, 3) := by decide +kernel
theorem dX11_letter_51 : decode cX11_letter 51 = .ok (.aload_n 0, 1) := by decide +kernel
theorem dX11_letter_52 : decode cX11_letter 52 = .ok (.getfield 16, 3) := by decide +kernel
theorem dX11_letter_55 : decode cX11_letter 55 = .ok (.iconst 3, 1) := by decide +kernel
theorem dX11_letter_56 : decode cX11_letter 56 = .ok (.iaload, 1) := by decide +kernel
theorem dX11_letter_57 : decode cX11_letter 57 = .ok (.iload_n 1, 1) := by decide +kernel
theorem dX11_letter_58 : decode cX11_letter 58 = .ok (.iastore, 1) := by decide +kernel
theorem dX11_letter_59 : decode cX11_letter 59 = .ok (.aload_n 0, 1) := by decide +kernel
theorem dX11_letter_60 : decode cX11_letter 60 = .ok (.getfield 37, 3) := by decide +kernel
theorem dX11_letter_63 : decode cX11_letter 63 = .ok (.aload_n 0, 1) := by decide +kernel
theorem dX11_letter_64 : decode cX11_letter 64 = .ok (.getfield 16, 3) := by decide +kernel
theorem dX11_letter_67 : decode cX11_letter 67 = .ok (.iconst 3, 1) := by decide +kernel
theorem dX11_letter_68 : decode cX11_letter 68 = .ok (.iaload, 1) := by decide +kernel
theorem dX11_letter_69 : decode cX11_letter 69 = .ok (.iload_n 2, 1) := by decide +kernel
theorem dX11_letter_70 : decode cX11_letter 70 = .ok (.iastore, 1) := by decide +kernel
theorem dX11_letter_71 : decode cX11_letter 71 = .ok (.aload_n 0, 1) := by decide +kernel
theorem dX11_letter_72 : decode cX11_letter 72 = .ok (.getfield 40, 3) := by decide +kernel
theorem dX11_letter_75 : decode cX11_letter 75 = .ok (.aload_n 0, 1) := by decide +kernel
theorem dX11_letter_76 : decode cX11_letter 76 = .ok (.getfield 16, 3) := by decide +kernel
theorem dX11_letter_79 : decode cX11_letter 79 = .ok (.iconst 3, 1) := by decide +kernel
theorem dX11_letter_80 : decode cX11_letter 80 = .ok (.iaload, 1) := by decide +kernel
theorem dX11_letter_81 : decode cX11_letter 81 = .ok (.iload_n 3, 1) := by decide +kernel
theorem dX11_letter_82 : decode cX11_letter 82 = .ok (.iastore, 1) := by decide +kernel
theorem dX11_letter_83 : decode cX11_letter 83 = .ok (.aload_n 0, 1) := by decide +kernel
theorem dX11_letter_84 : decode cX11_letter 84 = .ok (.getfield 43, 3) := by decide +kernel
theorem dX11_letter_87 : decode cX11_letter 87 = .ok (.aload_n 0, 1) := by decide +kernel
theorem dX11_letter_88 : decode cX11_letter 88 = .ok (.getfield 16, 3) := by decide +kernel
theorem dX11_letter_91 : decode cX11_letter 91 = .ok (.iconst 3, 1) := by decide +kernel
theorem dX11_letter_92 : decode cX11_letter 92 = .ok (.iaload, 1) := by decide +kernel
theorem dX11_letter_93 : decode cX11_letter 93 = .ok (.iconst 0, 1) := by decide +kernel
theorem dX11_letter_94 : decode cX11_letter 94 = .ok (.iastore, 1) := by decide +kernel
theorem dX11_letter_95 : decode cX11_letter 95 = .ok (.aload_n 0, 1) := by decide +kernel
theorem dX11_letter_96 : decode cX11_letter 96 = .ok (.iconst 3, 1) := by decide +kernel
theorem dX11_letter_97 : decode cX11_letter 97 = .ok (.invokevirtual 128, 3) := by decide +kernel
theorem dX11_letter_100 : decode cX11_letter 100 = .ok (.ireturn, 1) := by decide +kernel
theorem dX11_write_0 : decode cX11_write 0 = .ok (.aload_n 0, 1) := by decide +kernel
theorem dX11_write_1 : decode cX11_write 1 = .ok (.iconst 3, 1) := by decide +kernel
theorem dX11_write_2 : decode cX11_write 2 = .ok (.iload_n 1, 1) := by decide +kernel
theorem dX11_write_3 : decode cX11_write 3 = .ok (.invokevirtual 136, 3) := by decide +kernel
theorem dX11_write_6 : decode cX11_write 6 = .ok (.ifCond .eq 12, 3) := by decide +kernel
theorem dX11_write_9 : decode cX11_write 9 = .ok (.aload_n 0, 1) := by decide +kernel
theorem dX11_write_10 : decode cX11_write 10 = .ok (.iconst 0, 1) := by decide +kernel
theorem dX11_write_11 : decode cX11_write 11 = .ok (.iload_n 2, 1) := by decide +kernel
theorem dX11_write_12 : decode cX11_write 12 = .ok (.invokevirtual 136, 3) := by decide +kernel
theorem dX11_write_15 : decode cX11_write 15 = .ok (.ifCond .ne 6, 3) := by decide +kernel
theorem dX11_write_18 : decode cX11_write 18 = .ok (.bipush (-2), 2) := by decide +kernel
theorem dX11_write_20 : decode cX11_write 20 = .ok (.ireturn, 1) := by decide +kernel
theorem dX11_write_21 : decode cX11_write 21 = .ok (.aload_n 0, 1) := by decide +kernel
theorem dX11_write_22 : decode cX11_write 22 = .ok (.getfield 43, 3) := by decide +kernel
theorem dX11_write_25 : decode cX11_write 25 = .ok (.iload_n 1, 1) := by decide +kernel
theorem dX11_write_26 : decode cX11_write 26 = .ok (.iaload, 1) := by decide +kernel
theorem dX11_write_27 : decode cX11_write 27 = .ok (.bipush 8, 2) := by decide +kernel
theorem dX11_write_29 : decode cX11_write 29 = .ok (.if_icmp .ne 6, 3) := by decide +kernel
theorem dX11_write_32 : decode cX11_write 32 = .ok (.bipush (-4), 2) := by decide +kernel
theorem dX11_write_34 : decode cX11_write 34 = .ok (.ireturn, 1) := by decide +kernel
theorem dX11_write_35 : decode cX11_write 35 = .ok (.aload_n 0, 1) := by decide +kernel
theorem dX11_write_36 : decode cX11_write 36 = .ok (.getfield 46, 3) := by decide +kernel
theorem dX11_write_39 : decode cX11_write 39 = .ok (.bipush 8, 2) := by decide +kernel
theorem dX11_write_41 : decode cX11_write 41 = .ok (.iload_n 1, 1) := by decide +kernel
theorem dX11_write_42 : decode cX11_write 42 = .ok (.imul, 1) := by decide +kernel
theorem dX11_write_43 : decode cX11_write 43 = .ok (.aload_n 0, 1) := by decide +kernel
theorem dX11_write_44 : decode cX11_write 44 = .ok (.getfield 43, 3) := by decide +kernel
theorem dX11_write_47 : decode cX11_write 47 = .ok (.iload_n 1, 1) := by decide +kernel
theorem dX11_write_48 : decode cX11_write 48 = .ok (.iaload, 1) := by decide +kernel
theorem dX11_write_49 : decode cX11_write 49 = .ok (.iadd, 1) := by decide +kernel
theorem dX11_write_50 : decode cX11_write 50 = .ok (.iload_n 2, 1) := by decide +kernel
theorem dX11_write_51 : decode cX11_write 51 = .ok (.iastore, 1) := by decide +kernel
theorem dX11_write_52 : decode cX11_write 52 = .ok (.aload_n 0, 1) := by decide +kernel
theorem dX11_write_53 : decode cX11_write 53 = .ok (.getfield 43, 3) := by decide +kernel
theorem dX11_write_56 : decode cX11_write 56 = .ok (.iload_n 1, 1) := by decide +kernel
theorem dX11_write_57 : decode cX11_write 57 = .ok (.dup2, 1) := by decide +kernel
theorem dX11_write_58 : decode cX11_write 58 = .ok (.iaload, 1) := by decide +kernel
theorem dX11_write_59 : decode cX11_write 59 = .ok (.iconst 1, 1) := by decide +kernel
theorem dX11_write_60 : decode cX11_write 60 = .ok (.iadd, 1) := by decide +kernel
theorem dX11_write_61 : decode cX11_write 61 = .ok (.iastore, 1) := by decide +kernel
theorem dX11_write_62 : decode cX11_write 62 = .ok (.aload_n 0, 1) := by decide +kernel
theorem dX11_write_63 : decode cX11_write 63 = .ok (.getfield 43, 3) := by decide +kernel
theorem dX11_write_66 : decode cX11_write 66 = .ok (.iload_n 1, 1) := by decide +kernel
theorem dX11_write_67 : decode cX11_write 67 = .ok (.iaload, 1) := by decide +kernel
theorem dX11_write_68 : decode cX11_write 68 = .ok (.ireturn, 1) := by decide +kernel
theorem dX11_isGift_0 : decode cX11_isGift 0 = .ok (.iload_n 0, 1) := by decide +kernel
theorem dX11_isGift_1 : decode cX11_isGift 1 = .ok (.i2l, 1) := by decide +kernel
theorem dX11_isGift_2 : decode cX11_isGift 2 = .ok (.lconst 0, 1) := by decide +kernel
theorem dX11_isGift_3 : decode cX11_isGift 3 = .ok (.ldc2_w 134, 3) := by decide +kernel
theorem dX11_isGift_6 : decode cX11_isGift 6 = .ok (.invokestatic 120, 3) := by decide +kernel
theorem dX11_isGift_9 : decode cX11_isGift 9 = .ok (.ireturn, 1) := by decide +kernel
theorem dX11_weight_0 : decode cX11_weight 0 = .ok (.iload_n 1, 1) := by decide +kernel
theorem dX11_weight_1 : decode cX11_weight 1 = .ok (.invokestatic 142, 3) := by decide +kernel
theorem dX11_weight_4 : decode cX11_weight 4 = .ok (.ifCond .eq 15, 3) := by decide +kernel
theorem dX11_weight_7 : decode cX11_weight 7 = .ok (.iload_n 2, 1) := by decide +kernel
theorem dX11_weight_8 : decode cX11_weight 8 = .ok (.i2l, 1) := by decide +kernel
theorem dX11_weight_9 : decode cX11_weight 9 = .ok (.lconst 1, 1) := by decide +kernel
theorem dX11_weight_10 : decode cX11_weight 10 = .ok (.ldc2_w 124, 3) := by decide +kernel
theorem dX11_weight_13 : decode cX11_weight 13 = .ok (.invokestatic 120, 3) := by decide +kernel
theorem dX11_weight_16 : decode cX11_weight 16 = .ok (.ifCond .ne 6, 3) := by decide +kernel
theorem dX11_weight_19 : decode cX11_weight 19 = .ok (.bipush (-2), 2) := by decide +kernel
theorem dX11_weight_21 : decode cX11_weight 21 = .ok (.ireturn, 1) := by decide +kernel
theorem dX11_weight_22 : decode cX11_weight 22 = .ok (.aload_n 0, 1) := by decide +kernel
theorem dX11_weight_23 : decode cX11_weight 23 = .ok (.getfield 49, 3) := by decide +kernel
theorem dX11_weight_26 : decode cX11_weight 26 = .ok (.iload_n 1, 1) := by decide +kernel
theorem dX11_weight_27 : decode cX11_weight 27 = .ok (.iaload, 1) := by decide +kernel
theorem dX11_weight_28 : decode cX11_weight 28 = .ok (.istore_n 3, 1) := by decide +kernel
theorem dX11_weight_29 : decode cX11_weight 29 = .ok (.aload_n 0, 1) := by decide +kernel
theorem dX11_weight_30 : decode cX11_weight 30 = .ok (.getfield 49, 3) := by decide +kernel
theorem dX11_weight_33 : decode cX11_weight 33 = .ok (.iload_n 1, 1) := by decide +kernel
theorem dX11_weight_34 : decode cX11_weight 34 = .ok (.iload_n 2, 1) := by decide +kernel
theorem dX11_weight_35 : decode cX11_weight 35 = .ok (.iastore, 1) := by decide +kernel
theorem dX11_weight_36 : decode cX11_weight 36 = .ok (.iload_n 3, 1) := by decide +kernel
theorem dX11_weight_37 : decode cX11_weight 37 = .ok (.ireturn, 1) := by decide +kernel
theorem dX11_stands_0 : decode cX11_stands 0 = .ok (.iconst 0, 1) := by decide +kernel
theorem dX11_stands_1 : decode cX11_stands 1 = .ok (.istore_n 3, 1) := by decide +kernel
theorem dX11_stands_2 : decode cX11_stands 2 = .ok (.iconst 0, 1) := by decide +kernel
theorem dX11_stands_3 : decode cX11_stands 3 = .ok (.istore 4, 2) := by decide +kernel
theorem dX11_stands_5 : decode cX11_stands 5 = .ok (.iload 4, 2) := by decide +kernel
theorem dX11_stands_7 : decode cX11_stands 7 = .ok (.aload_n 0, 1) := by decide +kernel
theorem dX11_stands_8 : decode cX11_stands 8 = .ok (.getfield 43, 3) := by decide +kernel
theorem dX11_stands_11 : decode cX11_stands 11 = .ok (.iload_n 1, 1) := by decide +kernel
theorem dX11_stands_12 : decode cX11_stands 12 = .ok (.iaload, 1) := by decide +kernel
theorem dX11_stands_13 : decode cX11_stands 13 = .ok (.if_icmp .ge 38, 3) := by decide +kernel
theorem dX11_stands_16 : decode cX11_stands 16 = .ok (.iload_n 3, 1) := by decide +kernel
theorem dX11_stands_17 : decode cX11_stands 17 = .ok (.iload_n 2, 1) := by decide +kernel
theorem dX11_stands_18 : decode cX11_stands 18 = .ok (.iconst (-1), 1) := by decide +kernel
theorem dX11_stands_19 : decode cX11_stands 19 = .ok (.if_icmp .eq 19, 3) := by decide +kernel
theorem dX11_stands_22 : decode cX11_stands 22 = .ok (.aload_n 0, 1) := by decide +kernel
theorem dX11_stands_23 : decode cX11_stands 23 = .ok (.getfield 46, 3) := by decide +kernel
theorem dX11_stands_26 : decode cX11_stands 26 = .ok (.bipush 8, 2) := by decide +kernel
theorem dX11_stands_28 : decode cX11_stands 28 = .ok (.iload_n 1, 1) := by decide +kernel
theorem dX11_stands_29 : decode cX11_stands 29 = .ok (.imul, 1) := by decide +kernel
theorem dX11_stands_30 : decode cX11_stands 30 = .ok (.iload 4, 2) := by decide +kernel
theorem dX11_stands_32 : decode cX11_stands 32 = .ok (.iadd, 1) := by decide +kernel
theorem dX11_stands_33 : decode cX11_stands 33 = .ok (.iaload, 1) := by decide +kernel
theorem dX11_stands_34 : decode cX11_stands 34 = .ok (.iload_n 2, 1) := by decide +kernel
theorem dX11_stands_35 : decode cX11_stands 35 = .ok (.if_icmp .ne 7, 3) := by decide +kernel
theorem dX11_stands_38 : decode cX11_stands 38 = .ok (.iconst 1, 1) := by decide +kernel
theorem dX11_stands_39 : decode cX11_stands 39 = .ok (.goto 4, 3) := by decide +kernel
theorem dX11_stands_42 : decode cX11_stands 42 = .ok (.iconst 0, 1) := by decide +kernel
theorem dX11_stands_43 : decode cX11_stands 43 = .ok (.iadd, 1) := by decide +kernel
theorem dX11_stands_44 : decode cX11_stands 44 = .ok (.istore_n 3, 1) := by decide +kernel
theorem dX11_stands_45 : decode cX11_stands 45 = .ok (.iinc 4 1, 3) := by decide +kernel
theorem dX11_stands_48 : decode cX11_stands 48 = .ok (.goto (-43), 3) := by decide +kernel
theorem dX11_stands_51 : decode cX11_stands 51 = .ok (.iload_n 3, 1) := by decide +kernel
theorem dX11_stands_52 : decode cX11_stands 52 = .ok (.ireturn, 1) := by decide +kernel
theorem dX11_usesOf_0 : decode cX11_usesOf 0 = .ok (.iconst 0, 1) := by decide +kernel
theorem dX11_usesOf_1 : decode cX11_usesOf 1 = .ok (.istore 5, 2) := by decide +kernel
theorem dX11_usesOf_3 : decode cX11_usesOf 3 = .ok (.iconst 0, 1) := by decide +kernel
theorem dX11_usesOf_4 : decode cX11_usesOf 4 = .ok (.istore 6, 2) := by decide +kernel
theorem dX11_usesOf_6 : decode cX11_usesOf 6 = .ok (.iload 6, 2) := by decide +kernel
theorem dX11_usesOf_8 : decode cX11_usesOf 8 = .ok (.aload_n 0, 1) := by decide +kernel
theorem dX11_usesOf_9 : decode cX11_usesOf 9 = .ok (.getfield 16, 3) := by decide +kernel
theorem dX11_usesOf_12 : decode cX11_usesOf 12 = .ok (.iconst 3, 1) := by decide +kernel
theorem dX11_usesOf_13 : decode cX11_usesOf 13 = .ok (.iaload, 1) := by decide +kernel
theorem dX11_usesOf_14 : decode cX11_usesOf 14 = .ok (.if_icmp .ge 88, 3) := by decide +kernel
theorem dX11_usesOf_17 : decode cX11_usesOf 17 = .ok (.aload_n 0, 1) := by decide +kernel
theorem dX11_usesOf_18 : decode cX11_usesOf 18 = .ok (.getfield 34, 3) := by decide +kernel
theorem dX11_usesOf_21 : decode cX11_usesOf 21 = .ok (.iload 6, 2) := by decide +kernel
theorem dX11_usesOf_23 : decode cX11_usesOf 23 = .ok (.iaload, 1) := by decide +kernel
theorem dX11_usesOf_24 : decode cX11_usesOf 24 = .ok (.iload_n 1, 1) := by decide +kernel
theorem dX11_usesOf_25 : decode cX11_usesOf 25 = .ok (.if_icmp .eq 19, 3) := by decide +kernel
theorem dX11_usesOf_28 : decode cX11_usesOf 28 = .ok (.aload_n 0, 1) := by decide +kernel
theorem dX11_usesOf_29 : decode cX11_usesOf 29 = .ok (.getfield 34, 3) := by decide +kernel
theorem dX11_usesOf_32 : decode cX11_usesOf 32 = .ok (.iload 6, 2) := by decide +kernel
theorem dX11_usesOf_34 : decode cX11_usesOf 34 = .ok (.iaload, 1) := by decide +kernel
theorem dX11_usesOf_35 : decode cX11_usesOf 35 = .ok (.aload_n 0, 1) := by decide +kernel
theorem dX11_usesOf_36 : decode cX11_usesOf 36 = .ok (.getfield 25, 3) := by decide +kernel
theorem dX11_usesOf_39 : decode cX11_usesOf 39 = .ok (.iload_n 1, 1) := by decide +kernel
theorem dX11_usesOf_40 : decode cX11_usesOf 40 = .ok (.iaload, 1) := by decide +kernel
theorem dX11_usesOf_41 : decode cX11_usesOf 41 = .ok (.if_icmp .ne 7, 3) := by decide +kernel
theorem dX11_usesOf_44 : decode cX11_usesOf 44 = .ok (.iconst 1, 1) := by decide +kernel
theorem dX11_usesOf_45 : decode cX11_usesOf 45 = .ok (.goto 4, 3) := by decide +kernel
theorem dX11_usesOf_48 : decode cX11_usesOf 48 = .ok (.iconst 0, 1) := by decide +kernel
theorem dX11_usesOf_49 : decode cX11_usesOf 49 = .ok (.istore 7, 2) := by decide +kernel
theorem dX11_usesOf_51 : decode cX11_usesOf 51 = .ok (.iload 7, 2) := by decide +kernel
theorem dX11_usesOf_53 : decode cX11_usesOf 53 = .ok (.ifCond .eq 43, 3) := by decide +kernel
theorem dX11_usesOf_56 : decode cX11_usesOf 56 = .ok (.aload_n 0, 1) := by decide +kernel
theorem dX11_usesOf_57 : decode cX11_usesOf 57 = .ok (.getfield 37, 3) := by decide +kernel
theorem dX11_usesOf_60 : decode cX11_usesOf 60 = .ok (.iload 6, 2) := by decide +kernel
theorem dX11_usesOf_62 : decode cX11_usesOf 62 = .ok (.iaload, 1) := by decide +kernel
theorem dX11_usesOf_63 : decode cX11_usesOf 63 = .ok (.iload 4, 2) := by decide +kernel
theorem dX11_usesOf_65 : decode cX11_usesOf 65 = .ok (.if_icmp .eq 31, 3) := by decide +kernel
theorem dX11_usesOf_68 : decode cX11_usesOf 68 = .ok (.aload_n 0, 1) := by decide +kernel
theorem dX11_usesOf_69 : decode cX11_usesOf 69 = .ok (.getfield 31, 3) := by decide +kernel
theorem dX11_usesOf_72 : decode cX11_usesOf 72 = .ok (.aload_n 0, 1) := by decide +kernel
theorem dX11_usesOf_73 : decode cX11_usesOf 73 = .ok (.getfield 37, 3) := by decide +kernel
theorem dX11_usesOf_76 : decode cX11_usesOf 76 = .ok (.iload 6, 2) := by decide +kernel
theorem dX11_usesOf_78 : decode cX11_usesOf 78 = .ok (.iaload, 1) := by decide +kernel
theorem dX11_usesOf_79 : decode cX11_usesOf 79 = .ok (.iaload, 1) := by decide +kernel
theorem dX11_usesOf_80 : decode cX11_usesOf 80 = .ok (.iload_n 3, 1) := by decide +kernel
theorem dX11_usesOf_81 : decode cX11_usesOf 81 = .ok (.if_icmp .ne 15, 3) := by decide +kernel
theorem dX11_usesOf_84 : decode cX11_usesOf 84 = .ok (.iload 5, 2) := by decide +kernel
theorem dX11_usesOf_86 : decode cX11_usesOf 86 = .ok (.aload_n 0, 1) := by decide +kernel
theorem dX11_usesOf_87 : decode cX11_usesOf 87 = .ok (.iload 6, 2) := by decide +kernel
theorem dX11_usesOf_89 : decode cX11_usesOf 89 = .ok (.iload_n 2, 1) := by decide +kernel
theorem dX11_usesOf_90 : decode cX11_usesOf 90 = .ok (.invokevirtual 145, 3) := by decide +kernel
theorem dX11_usesOf_93 : decode cX11_usesOf 93 = .ok (.iadd, 1) := by decide +kernel
theorem dX11_usesOf_94 : decode cX11_usesOf 94 = .ok (.istore 5, 2) := by decide +kernel
theorem dX11_usesOf_96 : decode cX11_usesOf 96 = .ok (.iinc 6 1, 3) := by decide +kernel
theorem dX11_usesOf_99 : decode cX11_usesOf 99 = .ok (.goto (-93), 3) := by decide +kernel
theorem dX11_usesOf_102 : decode cX11_usesOf 102 = .ok (.iload 5, 2) := by decide +kernel
theorem dX11_usesOf_104 : decode cX11_usesOf 104 = .ok (.ireturn, 1) := by decide +kernel
theorem dX11_isUse_0 : decode cX11_isUse 0 = .ok (.aload_n 0, 1) := by decide +kernel
theorem dX11_isUse_1 : decode cX11_isUse 1 = .ok (.iconst 1, 1) := by decide +kernel
theorem dX11_isUse_2 : decode cX11_isUse 2 = .ok (.iload_n 1, 1) := by decide +kernel
theorem dX11_isUse_3 : decode cX11_isUse 3 = .ok (.invokevirtual 136, 3) := by decide +kernel
theorem dX11_isUse_6 : decode cX11_isUse 6 = .ok (.ifCond .eq 23, 3) := by decide +kernel
theorem dX11_isUse_9 : decode cX11_isUse 9 = .ok (.aload_n 0, 1) := by decide +kernel
theorem dX11_isUse_10 : decode cX11_isUse 10 = .ok (.iconst 0, 1) := by decide +kernel
theorem dX11_isUse_11 : decode cX11_isUse 11 = .ok (.iload_n 2, 1) := by decide +kernel
theorem dX11_isUse_12 : decode cX11_isUse 12 = .ok (.invokevirtual 136, 3) := by decide +kernel
theorem dX11_isUse_15 : decode cX11_isUse 15 = .ok (.ifCond .eq 14, 3) := by decide +kernel
theorem dX11_isUse_18 : decode cX11_isUse 18 = .ok (.iload_n 3, 1) := by decide +kernel
theorem dX11_isUse_19 : decode cX11_isUse 19 = .ok (.invokestatic 142, 3) := by decide +kernel
theorem dX11_isUse_22 : decode cX11_isUse 22 = .ok (.ifCond .eq 7, 3) := by decide +kernel
theorem dX11_isUse_25 : decode cX11_isUse 25 = .ok (.iconst 1, 1) := by decide +kernel
theorem dX11_isUse_26 : decode cX11_isUse 26 = .ok (.goto 4, 3) := by decide +kernel
theorem dX11_isUse_29 : decode cX11_isUse 29 = .ok (.iconst 0, 1) := by decide +kernel
theorem dX11_isUse_30 : decode cX11_isUse 30 = .ok (.ireturn, 1) := by decide +kernel
theorem dX11_uses_0 : decode cX11_uses 0 = .ok (.aload_n 0, 1) := by decide +kernel
theorem dX11_uses_1 : decode cX11_uses 1 = .ok (.iload_n 1, 1) := by decide +kernel
theorem dX11_uses_2 : decode cX11_uses 2 = .ok (.iload_n 2, 1) := by decide +kernel
theorem dX11_uses_3 : decode cX11_uses 3 = .ok (.iload_n 3, 1) := by decide +kernel
theorem dX11_uses_4 : decode cX11_uses 4 = .ok (.invokevirtual 148, 3) := by decide +kernel
theorem dX11_uses_7 : decode cX11_uses 7 = .ok (.ifCond .eq 14, 3) := by decide +kernel
theorem dX11_uses_10 : decode cX11_uses 10 = .ok (.aload_n 0, 1) := by decide +kernel
theorem dX11_uses_11 : decode cX11_uses 11 = .ok (.iload_n 1, 1) := by decide +kernel
theorem dX11_uses_12 : decode cX11_uses 12 = .ok (.iload_n 2, 1) := by decide +kernel
theorem dX11_uses_13 : decode cX11_uses 13 = .ok (.iload_n 3, 1) := by decide +kernel
theorem dX11_uses_14 : decode cX11_uses 14 = .ok (.iconst (-1), 1) := by decide +kernel
theorem dX11_uses_15 : decode cX11_uses 15 = .ok (.invokevirtual 152, 3) := by decide +kernel
theorem dX11_uses_18 : decode cX11_uses 18 = .ok (.goto 5, 3) := by decide +kernel
theorem dX11_uses_21 : decode cX11_uses 21 = .ok (.bipush (-2), 2) := by decide +kernel
theorem dX11_uses_23 : decode cX11_uses 23 = .ok (.ireturn, 1) := by decide +kernel
theorem dX11_meanUp_0 : decode cX11_meanUp 0 = .ok (.iconst 1, 1) := by decide +kernel
theorem dX11_meanUp_1 : decode cX11_meanUp 1 = .ok (.aload_n 0, 1) := by decide +kernel
theorem dX11_meanUp_2 : decode cX11_meanUp 2 = .ok (.iload_n 1, 1) := by decide +kernel
theorem dX11_meanUp_3 : decode cX11_meanUp 3 = .ok (.iload_n 2, 1) := by decide +kernel
theorem dX11_meanUp_4 : decode cX11_meanUp 4 = .ok (.iload_n 3, 1) := by decide +kernel
theorem dX11_meanUp_5 : decode cX11_meanUp 5 = .ok (.iload 4, 2) := by decide +kernel
theorem dX11_meanUp_7 : decode cX11_meanUp 7 = .ok (.invokevirtual 152, 3) := by decide +kernel
theorem dX11_meanUp_10 : decode cX11_meanUp 10 = .ok (.iadd, 1) := by decide +kernel
theorem dX11_meanUp_11 : decode cX11_meanUp 11 = .ok (.ireturn, 1) := by decide +kernel
theorem dX11_meanDown_0 : decode cX11_meanDown 0 = .ok (.aload_n 0, 1) := by decide +kernel
theorem dX11_meanDown_1 : decode cX11_meanDown 1 = .ok (.getfield 16, 3) := by decide +kernel
theorem dX11_meanDown_4 : decode cX11_meanDown 4 = .ok (.iconst 0, 1) := by decide +kernel
theorem dX11_meanDown_5 : decode cX11_meanDown 5 = .ok (.iaload, 1) := by decide +kernel
theorem dX11_meanDown_6 : decode cX11_meanDown 6 = .ok (.aload_n 0, 1) := by decide +kernel
theorem dX11_meanDown_7 : decode cX11_meanDown 7 = .ok (.iload_n 1, 1) := by decide +kernel
theorem dX11_meanDown_8 : decode cX11_meanDown 8 = .ok (.iconst (-1), 1) := by decide +kernel
theorem dX11_meanDown_9 : decode cX11_meanDown 9 = .ok (.iload_n 2, 1) := by decide +kernel
theorem dX11_meanDown_10 : decode cX11_meanDown 10 = .ok (.iload_n 3, 1) := by decide +kernel
theorem dX11_meanDown_11 : decode cX11_meanDown 11 = .ok (.invokevirtual 152, 3) := by decide +kernel
theorem dX11_meanDown_14 : decode cX11_meanDown 14 = .ok (.iadd, 1) := by decide +kernel
theorem dX11_meanDown_15 : decode cX11_meanDown 15 = .ok (.ireturn, 1) := by decide +kernel
theorem dX11_means_0 : decode cX11_means 0 = .ok (.aload_n 0, 1) := by decide +kernel
theorem dX11_means_1 : decode cX11_means 1 = .ok (.iload_n 1, 1) := by decide +kernel
theorem dX11_means_2 : decode cX11_means 2 = .ok (.iload_n 2, 1) := by decide +kernel
theorem dX11_means_3 : decode cX11_means 3 = .ok (.iload_n 3, 1) := by decide +kernel
theorem dX11_means_4 : decode cX11_means 4 = .ok (.invokevirtual 148, 3) := by decide +kernel
theorem dX11_means_7 : decode cX11_means 7 = .ok (.ifCond .eq 27, 3) := by decide +kernel
theorem dX11_means_10 : decode cX11_means 10 = .ok (.aload_n 0, 1) := by decide +kernel
theorem dX11_means_11 : decode cX11_means 11 = .ok (.aload_n 0, 1) := by decide +kernel
theorem dX11_means_12 : decode cX11_means 12 = .ok (.iload_n 1, 1) := by decide +kernel
theorem dX11_means_13 : decode cX11_means 13 = .ok (.iload_n 2, 1) := by decide +kernel
theorem dX11_means_14 : decode cX11_means 14 = .ok (.iload_n 3, 1) := by decide +kernel
theorem dX11_means_15 : decode cX11_means 15 = .ok (.iconst (-1), 1) := by decide +kernel
theorem dX11_means_16 : decode cX11_means 16 = .ok (.invokevirtual 156, 3) := by decide +kernel
theorem dX11_means_19 : decode cX11_means 19 = .ok (.i2l, 1) := by decide +kernel
theorem dX11_means_20 : decode cX11_means 20 = .ok (.aload_n 0, 1) := by decide +kernel
theorem dX11_means_21 : decode cX11_means 21 = .ok (.iload_n 1, 1) := by decide +kernel
theorem dX11_means_22 : decode cX11_means 22 = .ok (.iload_n 3, 1) := by decide +kernel
theorem dX11_means_23 : decode cX11_means 23 = .ok (.iconst (-1), 1) := by decide +kernel
theorem dX11_means_24 : decode cX11_means 24 = .ok (.invokevirtual 159, 3) := by decide +kernel
theorem dX11_means_27 : decode cX11_means 27 = .ok (.i2l, 1) := by decide +kernel
theorem dX11_means_28 : decode cX11_means 28 = .ok (.invokevirtual 163, 3) := by decide +kernel
theorem dX11_means_31 : decode cX11_means 31 = .ok (.goto 5, 3) := by decide +kernel
theorem dX11_means_34 : decode cX11_means 34 = .ok (.bipush (-2), 2) := by decide +kernel
theorem dX11_means_36 : decode cX11_means 36 = .ok (.ireturn, 1) := by decide +kernel
theorem dX11_wordsOf_0 : decode cX11_wordsOf 0 = .ok (.iconst 0, 1) := by decide +kernel
theorem dX11_wordsOf_1 : decode cX11_wordsOf 1 = .ok (.istore_n 2, 1) := by decide +kernel
theorem dX11_wordsOf_2 : decode cX11_wordsOf 2 = .ok (.iconst 0, 1) := by decide +kernel
theorem dX11_wordsOf_3 : decode cX11_wordsOf 3 = .ok (.istore_n 3, 1) := by decide +kernel
theorem dX11_wordsOf_4 : decode cX11_wordsOf 4 = .ok (.iload_n 3, 1) := by decide +kernel
theorem dX11_wordsOf_5 : decode cX11_wordsOf 5 = .ok (.aload_n 0, 1) := by decide +kernel
theorem dX11_wordsOf_6 : decode cX11_wordsOf 6 = .ok (.getfield 16, 3) := by decide +kernel
theorem dX11_wordsOf_9 : decode cX11_wordsOf 9 = .ok (.iconst 3, 1) := by decide +kernel
theorem dX11_wordsOf_10 : decode cX11_wordsOf 10 = .ok (.iaload, 1) := by decide +kernel
theorem dX11_wordsOf_11 : decode cX11_wordsOf 11 = .ok (.if_icmp .ge 32, 3) := by decide +kernel
theorem dX11_wordsOf_14 : decode cX11_wordsOf 14 = .ok (.iload_n 2, 1) := by decide +kernel
theorem dX11_wordsOf_15 : decode cX11_wordsOf 15 = .ok (.aload_n 0, 1) := by decide +kernel
theorem dX11_wordsOf_16 : decode cX11_wordsOf 16 = .ok (.getfield 37, 3) := by decide +kernel
theorem dX11_wordsOf_19 : decode cX11_wordsOf 19 = .ok (.iload_n 3, 1) := by decide +kernel
theorem dX11_wordsOf_20 : decode cX11_wordsOf 20 = .ok (.iaload, 1) := by decide +kernel
theorem dX11_wordsOf_21 : decode cX11_wordsOf 21 = .ok (.iload_n 1, 1) := by decide +kernel
theorem dX11_wordsOf_22 : decode cX11_wordsOf 22 = .ok (.if_icmp .ne 12, 3) := by decide +kernel
theorem dX11_wordsOf_25 : decode cX11_wordsOf 25 = .ok (.aload_n 0, 1) := by decide +kernel
theorem dX11_wordsOf_26 : decode cX11_wordsOf 26 = .ok (.getfield 43, 3) := by decide +kernel
theorem dX11_wordsOf_29 : decode cX11_wordsOf 29 = .ok (.iload_n 3, 1) := by decide +kernel
theorem dX11_wordsOf_30 : decode cX11_wordsOf 30 = .ok (.iaload, 1) := by decide +kernel
theorem dX11_wordsOf_31 : decode cX11_wordsOf 31 = .ok (.goto 4, 3) := by decide +kernel
theorem dX11_wordsOf_34 : decode cX11_wordsOf 34 = .ok (.iconst 0, 1) := by decide +kernel
theorem dX11_wordsOf_35 : decode cX11_wordsOf 35 = .ok (.iadd, 1) := by decide +kernel
theorem dX11_wordsOf_36 : decode cX11_wordsOf 36 = .ok (.istore_n 2, 1) := by decide +kernel
theorem dX11_wordsOf_37 : decode cX11_wordsOf 37 = .ok (.iinc 3 1, 3) := by decide +kernel
theorem dX11_wordsOf_40 : decode cX11_wordsOf 40 = .ok (.goto (-36), 3) := by decide +kernel
theorem dX11_wordsOf_43 : decode cX11_wordsOf 43 = .ok (.iload_n 2, 1) := by decide +kernel
theorem dX11_wordsOf_44 : decode cX11_wordsOf 44 = .ok (.ireturn, 1) := by decide +kernel
theorem dX11_weighs_0 : decode cX11_weighs 0 = .ok (.iconst 0, 1) := by decide +kernel
theorem dX11_weighs_1 : decode cX11_weighs 1 = .ok (.istore_n 2, 1) := by decide +kernel
theorem dX11_weighs_2 : decode cX11_weighs 2 = .ok (.iload_n 2, 1) := by decide +kernel
theorem dX11_weighs_3 : decode cX11_weighs 3 = .ok (.iconst 4, 1) := by decide +kernel
theorem dX11_weighs_4 : decode cX11_weighs 4 = .ok (.if_icmp .ge 133, 3) := by decide +kernel
theorem dX11_weighs_7 : decode cX11_weighs 7 = .ok (.aload_n 0, 1) := by decide +kernel
theorem dX11_weighs_8 : decode cX11_weighs 8 = .ok (.bipush 7, 2) := by decide +kernel
theorem dX11_weighs_10 : decode cX11_weighs 10 = .ok (.iload_n 2, 1) := by decide +kernel
theorem dX11_weighs_11 : decode cX11_weighs 11 = .ok (.iadd, 1) := by decide +kernel
theorem dX11_weighs_12 : decode cX11_weighs 12 = .ok (.aload_n 0, 1) := by decide +kernel
theorem dX11_weighs_13 : decode cX11_weighs 13 = .ok (.getfield 49, 3) := by decide +kernel
theorem dX11_weighs_16 : decode cX11_weighs 16 = .ok (.iload_n 2, 1) := by decide +kernel
theorem dX11_weighs_17 : decode cX11_weighs 17 = .ok (.iaload, 1) := by decide +kernel
theorem dX11_weighs_18 : decode cX11_weighs 18 = .ok (.i2l, 1) := by decide +kernel
theorem dX11_weighs_19 : decode cX11_weighs 19 = .ok (.invokevirtual 85, 3) := by decide +kernel
theorem dX11_weighs_22 : decode cX11_weighs 22 = .ok (.aload_n 0, 1) := by decide +kernel
theorem dX11_weighs_23 : decode cX11_weighs 23 = .ok (.bipush 11, 2) := by decide +kernel
theorem dX11_weighs_25 : decode cX11_weighs 25 = .ok (.iload_n 2, 1) := by decide +kernel
theorem dX11_weighs_26 : decode cX11_weighs 26 = .ok (.iadd, 1) := by decide +kernel
theorem dX11_weighs_27 : decode cX11_weighs 27 = .ok (.lconst 1, 1) := by decide +kernel
theorem dX11_weighs_28 : decode cX11_weighs 28 = .ok (.invokevirtual 85, 3) := by decide +kernel
theorem dX11_weighs_31 : decode cX11_weighs 31 = .ok (.iconst 0, 1) := by decide +kernel
theorem dX11_weighs_32 : decode cX11_weighs 32 = .ok (.istore_n 3, 1) := by decide +kernel
theorem dX11_weighs_33 : decode cX11_weighs 33 = .ok (.iload_n 3, 1) := by decide +kernel
theorem dX11_weighs_34 : decode cX11_weighs 34 = .ok (.aload_n 0, 1) := by decide +kernel
theorem dX11_weighs_35 : decode cX11_weighs 35 = .ok (.getfield 16, 3) := by decide +kernel
theorem dX11_weighs_38 : decode cX11_weighs 38 = .ok (.iconst 3, 1) := by decide +kernel
theorem dX11_weighs_39 : decode cX11_weighs 39 = .ok (.iaload, 1) := by decide +kernel
theorem dX11_weighs_40 : decode cX11_weighs 40 = .ok (.if_icmp .ge 91, 3) := by decide +kernel
theorem dX11_weighs_43 : decode cX11_weighs 43 = .ok (.iconst 0, 1) := by decide +kernel
theorem dX11_weighs_44 : decode cX11_weighs 44 = .ok (.istore 4, 2) := by decide +kernel
theorem dX11_weighs_46 : decode cX11_weighs 46 = .ok (.iload 4, 2) := by decide +kernel
theorem dX11_weighs_48 : decode cX11_weighs 48 = .ok (.aload_n 0, 1) := by decide +kernel
theorem dX11_weighs_49 : decode cX11_weighs 49 = .ok (.getfield 43, 3) := by decide +kernel
theorem dX11_weighs_52 : decode cX11_weighs 52 = .ok (.iload_n 3, 1) := by decide +kernel
theorem dX11_weighs_53 : decode cX11_weighs 53 = .ok (.iaload, 1) := by decide +kernel
theorem dX11_weighs_54 : decode cX11_weighs 54 = .ok (.if_icmp .ge 71, 3) := by decide +kernel
theorem dX11_weighs_57 : decode cX11_weighs 57 = .ok (.aload_n 0, 1) := by decide +kernel
theorem dX11_weighs_58 : decode cX11_weighs 58 = .ok (.getfield 37, 3) := by decide +kernel
theorem dX11_weighs_61 : decode cX11_weighs 61 = .ok (.iload_n 3, 1) := by decide +kernel
theorem dX11_weighs_62 : decode cX11_weighs 62 = .ok (.iaload, 1) := by decide +kernel
theorem dX11_weighs_63 : decode cX11_weighs 63 = .ok (.iload_n 1, 1) := by decide +kernel
theorem dX11_weighs_64 : decode cX11_weighs 64 = .ok (.if_icmp .ne 61, 3) := by decide +kernel
theorem dX11_weighs_67 : decode cX11_weighs 67 = .ok (.aload_n 0, 1) := by decide +kernel
theorem dX11_weighs_68 : decode cX11_weighs 68 = .ok (.bipush 7, 2) := by decide +kernel
theorem dX11_weighs_70 : decode cX11_weighs 70 = .ok (.iload_n 2, 1) := by decide +kernel
theorem dX11_weighs_71 : decode cX11_weighs 71 = .ok (.iadd, 1) := by decide +kernel
theorem dX11_weighs_72 : decode cX11_weighs 72 = .ok (.aload_n 0, 1) := by decide +kernel
theorem dX11_weighs_73 : decode cX11_weighs 73 = .ok (.aload_n 0, 1) := by decide +kernel
theorem dX11_weighs_74 : decode cX11_weighs 74 = .ok (.getfield 34, 3) := by decide +kernel
theorem dX11_weighs_77 : decode cX11_weighs 77 = .ok (.iload_n 3, 1) := by decide +kernel
theorem dX11_weighs_78 : decode cX11_weighs 78 = .ok (.iaload, 1) := by decide +kernel
theorem dX11_weighs_79 : decode cX11_weighs 79 = .ok (.aload_n 0, 1) := by decide +kernel
theorem dX11_weighs_80 : decode cX11_weighs 80 = .ok (.getfield 46, 3) := by decide +kernel
theorem dX11_weighs_83 : decode cX11_weighs 83 = .ok (.bipush 8, 2) := by decide +kernel
theorem dX11_weighs_85 : decode cX11_weighs 85 = .ok (.iload_n 3, 1) := by decide +kernel
theorem dX11_weighs_86 : decode cX11_weighs 86 = .ok (.imul, 1) := by decide +kernel
theorem dX11_weighs_87 : decode cX11_weighs 87 = .ok (.iload 4, 2) := by decide +kernel
theorem dX11_weighs_89 : decode cX11_weighs 89 = .ok (.iadd, 1) := by decide +kernel
theorem dX11_weighs_90 : decode cX11_weighs 90 = .ok (.iaload, 1) := by decide +kernel
theorem dX11_weighs_91 : decode cX11_weighs 91 = .ok (.iload_n 2, 1) := by decide +kernel
theorem dX11_weighs_92 : decode cX11_weighs 92 = .ok (.iload_n 1, 1) := by decide +kernel
theorem dX11_weighs_93 : decode cX11_weighs 93 = .ok (.invokevirtual 156, 3) := by decide +kernel
theorem dX11_weighs_96 : decode cX11_weighs 96 = .ok (.invokevirtual 167, 3) := by decide +kernel
theorem dX11_weighs_99 : decode cX11_weighs 99 = .ok (.aload_n 0, 1) := by decide +kernel
theorem dX11_weighs_100 : decode cX11_weighs 100 = .ok (.bipush 11, 2) := by decide +kernel
theorem dX11_weighs_102 : decode cX11_weighs 102 = .ok (.iload_n 2, 1) := by decide +kernel
theorem dX11_weighs_103 : decode cX11_weighs 103 = .ok (.iadd, 1) := by decide +kernel
theorem dX11_weighs_104 : decode cX11_weighs 104 = .ok (.aload_n 0, 1) := by decide +kernel
theorem dX11_weighs_105 : decode cX11_weighs 105 = .ok (.aload_n 0, 1) := by decide +kernel
theorem dX11_weighs_106 : decode cX11_weighs 106 = .ok (.getfield 34, 3) := by decide +kernel
theorem dX11_weighs_109 : decode cX11_weighs 109 = .ok (.iload_n 3, 1) := by decide +kernel
theorem dX11_weighs_110 : decode cX11_weighs 110 = .ok (.iaload, 1) := by decide +kernel
theorem dX11_weighs_111 : decode cX11_weighs 111 = .ok (.iload_n 2, 1) := by decide +kernel
theorem dX11_weighs_112 : decode cX11_weighs 112 = .ok (.iload_n 1, 1) := by decide +kernel
theorem dX11_weighs_113 : decode cX11_weighs 113 = .ok (.invokevirtual 159, 3) := by decide +kernel
theorem dX11_weighs_116 : decode cX11_weighs 116 = .ok (.invokevirtual 167, 3) := by decide +kernel
theorem dX11_weighs_119 : decode cX11_weighs 119 = .ok (.iinc 4 1, 3) := by decide +kernel
theorem dX11_weighs_122 : decode cX11_weighs 122 = .ok (.goto (-76), 3) := by decide +kernel
theorem dX11_weighs_125 : decode cX11_weighs 125 = .ok (.iinc 3 1, 3) := by decide +kernel
theorem dX11_weighs_128 : decode cX11_weighs 128 = .ok (.goto (-95), 3) := by decide +kernel
theorem dX11_weighs_131 : decode cX11_weighs 131 = .ok (.iinc 2 1, 3) := by decide +kernel
theorem dX11_weighs_134 : decode cX11_weighs 134 = .ok (.goto (-132), 3) := by decide +kernel
theorem dX11_weighs_137 : decode cX11_weighs 137 = .ok (.return_, 1) := by decide +kernel
theorem dX11_shares_0 : decode cX11_shares 0 = .ok (.aload_n 0, 1) := by decide +kernel
theorem dX11_shares_1 : decode cX11_shares 1 = .ok (.iload_n 1, 1) := by decide +kernel
theorem dX11_shares_2 : decode cX11_shares 2 = .ok (.bipush 7, 2) := by decide +kernel
theorem dX11_shares_4 : decode cX11_shares 4 = .ok (.iload_n 2, 1) := by decide +kernel
theorem dX11_shares_5 : decode cX11_shares 5 = .ok (.iadd, 1) := by decide +kernel
theorem dX11_shares_6 : decode cX11_shares 6 = .ok (.invokevirtual 95, 3) := by decide +kernel
theorem dX11_shares_9 : decode cX11_shares 9 = .ok (.iconst 0, 1) := by decide +kernel
theorem dX11_shares_10 : decode cX11_shares 10 = .ok (.istore_n 3, 1) := by decide +kernel
theorem dX11_shares_11 : decode cX11_shares 11 = .ok (.iload_n 3, 1) := by decide +kernel
theorem dX11_shares_12 : decode cX11_shares 12 = .ok (.iconst 4, 1) := by decide +kernel
theorem dX11_shares_13 : decode cX11_shares 13 = .ok (.if_icmp .ge 23, 3) := by decide +kernel
theorem dX11_shares_16 : decode cX11_shares 16 = .ok (.iload_n 3, 1) := by decide +kernel
theorem dX11_shares_17 : decode cX11_shares 17 = .ok (.iload_n 2, 1) := by decide +kernel
theorem dX11_shares_18 : decode cX11_shares 18 = .ok (.if_icmp .eq 12, 3) := by decide +kernel
theorem dX11_shares_21 : decode cX11_shares 21 = .ok (.aload_n 0, 1) := by decide +kernel
theorem dX11_shares_22 : decode cX11_shares 22 = .ok (.iload_n 1, 1) := by decide +kernel
theorem dX11_shares_23 : decode cX11_shares 23 = .ok (.bipush 11, 2) := by decide +kernel
theorem dX11_shares_25 : decode cX11_shares 25 = .ok (.iload_n 3, 1) := by decide +kernel
theorem dX11_shares_26 : decode cX11_shares 26 = .ok (.iadd, 1) := by decide +kernel
theorem dX11_shares_27 : decode cX11_shares 27 = .ok (.invokevirtual 170, 3) := by decide +kernel
theorem dX11_shares_30 : decode cX11_shares 30 = .ok (.iinc 3 1, 3) := by decide +kernel
theorem dX11_shares_33 : decode cX11_shares 33 = .ok (.goto (-22), 3) := by decide +kernel
theorem dX11_shares_36 : decode cX11_shares 36 = .ok (.return_, 1) := by decide +kernel
theorem dX11_odds_0 : decode cX11_odds 0 = .ok (.aload_n 0, 1) := by decide +kernel
theorem dX11_odds_1 : decode cX11_odds 1 = .ok (.iconst 2, 1) := by decide +kernel
theorem dX11_odds_2 : decode cX11_odds 2 = .ok (.iload_n 1, 1) := by decide +kernel
theorem dX11_odds_3 : decode cX11_odds 3 = .ok (.invokevirtual 136, 3) := by decide +kernel
theorem dX11_odds_6 : decode cX11_odds 6 = .ok (.ifCond .eq 10, 3) := by decide +kernel
theorem dX11_odds_9 : decode cX11_odds 9 = .ok (.iload_n 2, 1) := by decide +kernel
theorem dX11_odds_10 : decode cX11_odds 10 = .ok (.invokestatic 142, 3) := by decide +kernel
theorem dX11_odds_13 : decode cX11_odds 13 = .ok (.ifCond .ne 6, 3) := by decide +kernel
theorem dX11_odds_16 : decode cX11_odds 16 = .ok (.bipush (-2), 2) := by decide +kernel
theorem dX11_odds_18 : decode cX11_odds 18 = .ok (.ireturn, 1) := by decide +kernel
theorem dX11_odds_19 : decode cX11_odds 19 = .ok (.aload_n 0, 1) := by decide +kernel
theorem dX11_odds_20 : decode cX11_odds 20 = .ok (.iload_n 1, 1) := by decide +kernel
theorem dX11_odds_21 : decode cX11_odds 21 = .ok (.invokevirtual 173, 3) := by decide +kernel
theorem dX11_odds_24 : decode cX11_odds 24 = .ok (.bipush 12, 2) := by decide +kernel
theorem dX11_odds_26 : decode cX11_odds 26 = .ok (.if_icmp .le 6, 3) := by decide +kernel
theorem dX11_odds_29 : decode cX11_odds 29 = .ok (.bipush (-3), 2) := by decide +kernel
theorem dX11_odds_31 : decode cX11_odds 31 = .ok (.ireturn, 1) := by decide +kernel
theorem dX11_odds_32 : decode cX11_odds 32 = .ok (.aload_n 0, 1) := by decide +kernel
theorem dX11_odds_33 : decode cX11_odds 33 = .ok (.iload_n 1, 1) := by decide +kernel
theorem dX11_odds_34 : decode cX11_odds 34 = .ok (.invokevirtual 176, 3) := by decide +kernel
theorem dX11_odds_37 : decode cX11_odds 37 = .ok (.aload_n 0, 1) := by decide +kernel
theorem dX11_odds_38 : decode cX11_odds 38 = .ok (.iconst 5, 1) := by decide +kernel
theorem dX11_odds_39 : decode cX11_odds 39 = .ok (.lconst 0, 1) := by decide +kernel
theorem dX11_odds_40 : decode cX11_odds 40 = .ok (.invokevirtual 85, 3) := by decide +kernel
theorem dX11_odds_43 : decode cX11_odds 43 = .ok (.iconst 0, 1) := by decide +kernel
theorem dX11_odds_44 : decode cX11_odds 44 = .ok (.istore_n 3, 1) := by decide +kernel
theorem dX11_odds_45 : decode cX11_odds 45 = .ok (.iload_n 3, 1) := by decide +kernel
theorem dX11_odds_46 : decode cX11_odds 46 = .ok (.iconst 4, 1) := by decide +kernel
theorem dX11_odds_47 : decode cX11_odds 47 = .ok (.if_icmp .ge 23, 3) := by decide +kernel
theorem dX11_odds_50 : decode cX11_odds 50 = .ok (.aload_n 0, 1) := by decide +kernel
theorem dX11_odds_51 : decode cX11_odds 51 = .ok (.bipush 6, 2) := by decide +kernel
theorem dX11_odds_53 : decode cX11_odds 53 = .ok (.iload_n 3, 1) := by decide +kernel
theorem dX11_odds_54 : decode cX11_odds 54 = .ok (.invokevirtual 179, 3) := by decide +kernel
theorem dX11_odds_57 : decode cX11_odds 57 = .ok (.aload_n 0, 1) := by decide +kernel
theorem dX11_odds_58 : decode cX11_odds 58 = .ok (.iconst 5, 1) := by decide +kernel
theorem dX11_odds_59 : decode cX11_odds 59 = .ok (.bipush 6, 2) := by decide +kernel
theorem dX11_odds_61 : decode cX11_odds 61 = .ok (.invokevirtual 182, 3) := by decide +kernel
theorem dX11_odds_64 : decode cX11_odds 64 = .ok (.iinc 3 1, 3) := by decide +kernel
theorem dX11_odds_67 : decode cX11_odds 67 = .ok (.goto (-22), 3) := by decide +kernel
theorem dX11_odds_70 : decode cX11_odds 70 = .ok (.aload_n 0, 1) := by decide +kernel
theorem dX11_odds_71 : decode cX11_odds 71 = .ok (.bipush 6, 2) := by decide +kernel
theorem dX11_odds_73 : decode cX11_odds 73 = .ok (.iload_n 2, 1) := by decide +kernel
theorem dX11_odds_74 : decode cX11_odds 74 = .ok (.invokevirtual 179, 3) := by decide +kernel
theorem dX11_odds_77 : decode cX11_odds 77 = .ok (.aload_n 0, 1) := by decide +kernel
theorem dX11_odds_78 : decode cX11_odds 78 = .ok (.iconst 0, 1) := by decide +kernel
theorem dX11_odds_79 : decode cX11_odds 79 = .ok (.bipush 6, 2) := by decide +kernel
theorem dX11_odds_81 : decode cX11_odds 81 = .ok (.invokevirtual 95, 3) := by decide +kernel
theorem dX11_odds_84 : decode cX11_odds 84 = .ok (.aload_n 0, 1) := by decide +kernel
theorem dX11_odds_85 : decode cX11_odds 85 = .ok (.iconst 1, 1) := by decide +kernel
theorem dX11_odds_86 : decode cX11_odds 86 = .ok (.iconst 5, 1) := by decide +kernel
theorem dX11_odds_87 : decode cX11_odds 87 = .ok (.invokevirtual 95, 3) := by decide +kernel
theorem dX11_odds_90 : decode cX11_odds 90 = .ok (.aload_n 0, 1) := by decide +kernel
theorem dX11_odds_91 : decode cX11_odds 91 = .ok (.invokevirtual 117, 3) := by decide +kernel
theorem dX11_odds_94 : decode cX11_odds 94 = .ok (.iconst 1, 1) := by decide +kernel
theorem dX11_odds_95 : decode cX11_odds 95 = .ok (.ireturn, 1) := by decide +kernel
theorem dX11_likeliest_0 : decode cX11_likeliest 0 = .ok (.aload_n 0, 1) := by decide +kernel
theorem dX11_likeliest_1 : decode cX11_likeliest 1 = .ok (.iconst 2, 1) := by decide +kernel
theorem dX11_likeliest_2 : decode cX11_likeliest 2 = .ok (.iload_n 1, 1) := by decide +kernel
theorem dX11_likeliest_3 : decode cX11_likeliest 3 = .ok (.invokevirtual 136, 3) := by decide +kernel
theorem dX11_likeliest_6 : decode cX11_likeliest 6 = .ok (.ifCond .ne 6, 3) := by decide +kernel
theorem dX11_likeliest_9 : decode cX11_likeliest 9 = .ok (.bipush (-2), 2) := by decide +kernel
theorem dX11_likeliest_11 : decode cX11_likeliest 11 = .ok (.ireturn, 1) := by decide +kernel
theorem dX11_likeliest_12 : decode cX11_likeliest 12 = .ok (.aload_n 0, 1) := by decide +kernel
theorem dX11_likeliest_13 : decode cX11_likeliest 13 = .ok (.iload_n 1, 1) := by decide +kernel
theorem dX11_likeliest_14 : decode cX11_likeliest 14 = .ok (.invokevirtual 173, 3) := by decide +kernel
theorem dX11_likeliest_17 : decode cX11_likeliest 17 = .ok (.bipush 12, 2) := by decide +kernel
theorem dX11_likeliest_19 : decode cX11_likeliest 19 = .ok (.if_icmp .le 6, 3) := by decide +kernel
theorem dX11_likeliest_22 : decode cX11_likeliest 22 = .ok (.bipush (-3), 2) := by decide +kernel
theorem dX11_likeliest_24 : decode cX11_likeliest 24 = .ok (.ireturn, 1) := by decide +kernel
theorem dX11_likeliest_25 : decode cX11_likeliest 25 = .ok (.aload_n 0, 1) := by decide +kernel
theorem dX11_likeliest_26 : decode cX11_likeliest 26 = .ok (.iload_n 1, 1) := by decide +kernel
theorem dX11_likeliest_27 : decode cX11_likeliest 27 = .ok (.invokevirtual 176, 3) := by decide +kernel
theorem dX11_likeliest_30 : decode cX11_likeliest 30 = .ok (.iconst 0, 1) := by decide +kernel
theorem dX11_likeliest_31 : decode cX11_likeliest 31 = .ok (.istore_n 2, 1) := by decide +kernel
theorem dX11_likeliest_32 : decode cX11_likeliest 32 = .ok (.aload_n 0, 1) := by decide +kernel
theorem dX11_likeliest_33 : decode cX11_likeliest 33 = .ok (.iconst 5, 1) := by decide +kernel
theorem dX11_likeliest_34 : decode cX11_likeliest 34 = .ok (.iconst 0, 1) := by decide +kernel
theorem dX11_likeliest_35 : decode cX11_likeliest 35 = .ok (.invokevirtual 179, 3) := by decide +kernel
theorem dX11_likeliest_38 : decode cX11_likeliest 38 = .ok (.iconst 1, 1) := by decide +kernel
theorem dX11_likeliest_39 : decode cX11_likeliest 39 = .ok (.istore_n 3, 1) := by decide +kernel
theorem dX11_likeliest_40 : decode cX11_likeliest 40 = .ok (.iload_n 3, 1) := by decide +kernel
theorem dX11_likeliest_41 : decode cX11_likeliest 41 = .ok (.iconst 4, 1) := by decide +kernel
theorem dX11_likeliest_42 : decode cX11_likeliest 42 = .ok (.if_icmp .ge 35, 3) := by decide +kernel
theorem dX11_likeliest_45 : decode cX11_likeliest 45 = .ok (.aload_n 0, 1) := by decide +kernel
theorem dX11_likeliest_46 : decode cX11_likeliest 46 = .ok (.bipush 6, 2) := by decide +kernel
theorem dX11_likeliest_48 : decode cX11_likeliest 48 = .ok (.iload_n 3, 1) := by decide +kernel
theorem dX11_likeliest_49 : decode cX11_likeliest 49 = .ok (.invokevirtual 179, 3) := by decide +kernel
theorem dX11_likeliest_52 : decode cX11_likeliest 52 = .ok (.aload_n 0, 1) := by decide +kernel
theorem dX11_likeliest_53 : decode cX11_likeliest 53 = .ok (.bipush 6, 2) := by decide +kernel
theorem dX11_likeliest_55 : decode cX11_likeliest 55 = .ok (.iconst 5, 1) := by decide +kernel
theorem dX11_likeliest_56 : decode cX11_likeliest 56 = .ok (.invokevirtual 107, 3) := by decide +kernel
theorem dX11_likeliest_59 : decode cX11_likeliest 59 = .ok (.ifCond .le 12, 3) := by decide +kernel
theorem dX11_likeliest_62 : decode cX11_likeliest 62 = .ok (.iload_n 3, 1) := by decide +kernel
theorem dX11_likeliest_63 : decode cX11_likeliest 63 = .ok (.istore_n 2, 1) := by decide +kernel
theorem dX11_likeliest_64 : decode cX11_likeliest 64 = .ok (.aload_n 0, 1) := by decide +kernel
theorem dX11_likeliest_65 : decode cX11_likeliest 65 = .ok (.iconst 5, 1) := by decide +kernel
theorem dX11_likeliest_66 : decode cX11_likeliest 66 = .ok (.bipush 6, 2) := by decide +kernel
theorem dX11_likeliest_68 : decode cX11_likeliest 68 = .ok (.invokevirtual 95, 3) := by decide +kernel
theorem dX11_likeliest_71 : decode cX11_likeliest 71 = .ok (.iinc 3 1, 3) := by decide +kernel
theorem dX11_likeliest_74 : decode cX11_likeliest 74 = .ok (.goto (-34), 3) := by decide +kernel
theorem dX11_likeliest_77 : decode cX11_likeliest 77 = .ok (.iload_n 2, 1) := by decide +kernel
theorem dX11_likeliest_78 : decode cX11_likeliest 78 = .ok (.ireturn, 1) := by decide +kernel
theorem dX11_says_0 : decode cX11_says 0 = .ok (.aload_n 0, 1) := by decide +kernel
theorem dX11_says_1 : decode cX11_says 1 = .ok (.iconst 1, 1) := by decide +kernel
theorem dX11_says_2 : decode cX11_says 2 = .ok (.iload_n 1, 1) := by decide +kernel
theorem dX11_says_3 : decode cX11_says 3 = .ok (.invokevirtual 136, 3) := by decide +kernel
theorem dX11_says_6 : decode cX11_says 6 = .ok (.ifCond .ne 6, 3) := by decide +kernel
theorem dX11_says_9 : decode cX11_says 9 = .ok (.bipush (-2), 2) := by decide +kernel
theorem dX11_says_11 : decode cX11_says 11 = .ok (.ireturn, 1) := by decide +kernel
theorem dX11_says_12 : decode cX11_says 12 = .ok (.aload_n 0, 1) := by decide +kernel
theorem dX11_says_13 : decode cX11_says 13 = .ok (.getfield 16, 3) := by decide +kernel
theorem dX11_says_16 : decode cX11_says 16 = .ok (.iconst 0, 1) := by decide +kernel
theorem dX11_says_17 : decode cX11_says 17 = .ok (.iaload, 1) := by decide +kernel
theorem dX11_says_18 : decode cX11_says 18 = .ok (.ifCond .ne 6, 3) := by decide +kernel
theorem dX11_says_21 : decode cX11_says 21 = .ok (.bipush (-3), 2) := by decide +kernel
theorem dX11_says_23 : decode cX11_says 23 = .ok (.ireturn, 1) := by decide +kernel
theorem dX11_says_24 : decode cX11_says 24 = .ok (.lconst 0, 1) := by decide +kernel
theorem dX11_says_25 : decode cX11_says 25 = .ok (.lstore_n 2, 1) := by decide +kernel
theorem dX11_says_26 : decode cX11_says 26 = .ok (.lconst 1, 1) := by decide +kernel
theorem dX11_says_27 : decode cX11_says 27 = .ok (.lstore 4, 2) := by decide +kernel
theorem dX11_says_29 : decode cX11_says 29 = .ok (.iconst 0, 1) := by decide +kernel
theorem dX11_says_30 : decode cX11_says 30 = .ok (.istore 6, 2) := by decide +kernel
theorem dX11_says_32 : decode cX11_says 32 = .ok (.iload 6, 2) := by decide +kernel
theorem dX11_says_34 : decode cX11_says 34 = .ok (.aload_n 0, 1) := by decide +kernel
theorem dX11_says_35 : decode cX11_says 35 = .ok (.getfield 16, 3) := by decide +kernel
theorem dX11_says_38 : decode cX11_says 38 = .ok (.iconst 0, 1) := by decide +kernel
theorem dX11_says_39 : decode cX11_says 39 = .ok (.iaload, 1) := by decide +kernel
theorem dX11_says_40 : decode cX11_says 40 = .ok (.if_icmp .ge 125, 3) := by decide +kernel
theorem dX11_says_43 : decode cX11_says 43 = .ok (.iconst 0, 1) := by decide +kernel
theorem dX11_says_44 : decode cX11_says 44 = .ok (.istore 7, 2) := by decide +kernel
theorem dX11_says_46 : decode cX11_says 46 = .ok (.iload 7, 2) := by decide +kernel
theorem dX11_says_48 : decode cX11_says 48 = .ok (.iconst 4, 1) := by decide +kernel
theorem dX11_says_49 : decode cX11_says 49 = .ok (.if_icmp .ge 110, 3) := by decide +kernel
theorem dX11_says_52 : decode cX11_says 52 = .ok (.iconst 0, 1) := by decide +kernel
theorem dX11_says_53 : decode cX11_says 53 = .ok (.istore 8, 2) := by decide +kernel
theorem dX11_says_55 : decode cX11_says 55 = .ok (.iload 8, 2) := by decide +kernel
theorem dX11_says_57 : decode cX11_says 57 = .ok (.iconst 4, 1) := by decide +kernel
theorem dX11_says_58 : decode cX11_says 58 = .ok (.if_icmp .ge 95, 3) := by decide +kernel
theorem dX11_says_61 : decode cX11_says 61 = .ok (.aload_n 0, 1) := by decide +kernel
theorem dX11_says_62 : decode cX11_says 62 = .ok (.iload_n 1, 1) := by decide +kernel
theorem dX11_says_63 : decode cX11_says 63 = .ok (.iload 7, 2) := by decide +kernel
theorem dX11_says_65 : decode cX11_says 65 = .ok (.iconst (-1), 1) := by decide +kernel
theorem dX11_says_66 : decode cX11_says 66 = .ok (.invokevirtual 159, 3) := by decide +kernel
theorem dX11_says_69 : decode cX11_says 69 = .ok (.i2l, 1) := by decide +kernel
theorem dX11_says_70 : decode cX11_says 70 = .ok (.aload_n 0, 1) := by decide +kernel
theorem dX11_says_71 : decode cX11_says 71 = .ok (.iload_n 1, 1) := by decide +kernel
theorem dX11_says_72 : decode cX11_says 72 = .ok (.iload 8, 2) := by decide +kernel
theorem dX11_says_74 : decode cX11_says 74 = .ok (.iconst (-1), 1) := by decide +kernel
theorem dX11_says_75 : decode cX11_says 75 = .ok (.invokevirtual 159, 3) := by decide +kernel
theorem dX11_says_78 : decode cX11_says 78 = .ok (.i2l, 1) := by decide +kernel
theorem dX11_says_79 : decode cX11_says 79 = .ok (.lmul, 1) := by decide +kernel
theorem dX11_says_80 : decode cX11_says 80 = .ok (.lstore 9, 2) := by decide +kernel
theorem dX11_says_82 : decode cX11_says 82 = .ok (.aload_n 0, 1) := by decide +kernel
theorem dX11_says_83 : decode cX11_says 83 = .ok (.iload_n 1, 1) := by decide +kernel
theorem dX11_says_84 : decode cX11_says 84 = .ok (.iload 6, 2) := by decide +kernel
theorem dX11_says_86 : decode cX11_says 86 = .ok (.iload 7, 2) := by decide +kernel
theorem dX11_says_88 : decode cX11_says 88 = .ok (.iconst (-1), 1) := by decide +kernel
theorem dX11_says_89 : decode cX11_says 89 = .ok (.invokevirtual 156, 3) := by decide +kernel
theorem dX11_says_92 : decode cX11_says 92 = .ok (.i2l, 1) := by decide +kernel
theorem dX11_says_93 : decode cX11_says 93 = .ok (.aload_n 0, 1) := by decide +kernel
theorem dX11_says_94 : decode cX11_says 94 = .ok (.iload_n 1, 1) := by decide +kernel
theorem dX11_says_95 : decode cX11_says 95 = .ok (.iload 8, 2) := by decide +kernel
theorem dX11_says_97 : decode cX11_says 97 = .ok (.iconst (-1), 1) := by decide +kernel
theorem dX11_says_98 : decode cX11_says 98 = .ok (.invokevirtual 159, 3) := by decide +kernel
theorem dX11_says_101 : decode cX11_says 101 = .ok (.i2l, 1) := by decide +kernel
theorem dX11_says_102 : decode cX11_says 102 = .ok (.lmul, 1) := by decide +kernel
theorem dX11_says_103 : decode cX11_says 103 = .ok (.aload_n 0, 1) := by decide +kernel
theorem dX11_says_104 : decode cX11_says 104 = .ok (.iload_n 1, 1) := by decide +kernel
theorem dX11_says_105 : decode cX11_says 105 = .ok (.iload 6, 2) := by decide +kernel
theorem dX11_says_107 : decode cX11_says 107 = .ok (.iload 8, 2) := by decide +kernel
theorem dX11_says_109 : decode cX11_says 109 = .ok (.iconst (-1), 1) := by decide +kernel
theorem dX11_says_110 : decode cX11_says 110 = .ok (.invokevirtual 156, 3) := by decide +kernel
theorem dX11_says_113 : decode cX11_says 113 = .ok (.i2l, 1) := by decide +kernel
theorem dX11_says_114 : decode cX11_says 114 = .ok (.aload_n 0, 1) := by decide +kernel
theorem dX11_says_115 : decode cX11_says 115 = .ok (.iload_n 1, 1) := by decide +kernel
theorem dX11_says_116 : decode cX11_says 116 = .ok (.iload 7, 2) := by decide +kernel
theorem dX11_says_118 : decode cX11_says 118 = .ok (.iconst (-1), 1) := by decide +kernel
theorem dX11_says_119 : decode cX11_says 119 = .ok (.invokevirtual 159, 3) := by decide +kernel
theorem dX11_says_122 : decode cX11_says 122 = .ok (.i2l, 1) := by decide +kernel
theorem dX11_says_123 : decode cX11_says 123 = .ok (.lmul, 1) := by decide +kernel
theorem dX11_says_124 : decode cX11_says 124 = .ok (.lsub, 1) := by decide +kernel
theorem dX11_says_125 : decode cX11_says 125 = .ok (.lstore 11, 2) := by decide +kernel
theorem dX11_says_127 : decode cX11_says 127 = .ok (.lload 11, 2) := by decide +kernel
theorem dX11_says_129 : decode cX11_says 129 = .ok (.lload 4, 2) := by decide +kernel
theorem dX11_says_131 : decode cX11_says 131 = .ok (.lmul, 1) := by decide +kernel
theorem dX11_says_132 : decode cX11_says 132 = .ok (.lload_n 2, 1) := by decide +kernel
theorem dX11_says_133 : decode cX11_says 133 = .ok (.lload 9, 2) := by decide +kernel
theorem dX11_says_135 : decode cX11_says 135 = .ok (.lmul, 1) := by decide +kernel
theorem dX11_says_136 : decode cX11_says 136 = .ok (.lcmp, 1) := by decide +kernel
theorem dX11_says_137 : decode cX11_says 137 = .ok (.ifCond .le 10, 3) := by decide +kernel
theorem dX11_says_140 : decode cX11_says 140 = .ok (.lload 11, 2) := by decide +kernel
theorem dX11_says_142 : decode cX11_says 142 = .ok (.lstore_n 2, 1) := by decide +kernel
theorem dX11_says_143 : decode cX11_says 143 = .ok (.lload 9, 2) := by decide +kernel
theorem dX11_says_145 : decode cX11_says 145 = .ok (.lstore 4, 2) := by decide +kernel
theorem dX11_says_147 : decode cX11_says 147 = .ok (.iinc 8 1, 3) := by decide +kernel
theorem dX11_says_150 : decode cX11_says 150 = .ok (.goto (-95), 3) := by decide +kernel
theorem dX11_says_153 : decode cX11_says 153 = .ok (.iinc 7 1, 3) := by decide +kernel
theorem dX11_says_156 : decode cX11_says 156 = .ok (.goto (-110), 3) := by decide +kernel
theorem dX11_says_159 : decode cX11_says 159 = .ok (.iinc 6 1, 3) := by decide +kernel
theorem dX11_says_162 : decode cX11_says 162 = .ok (.goto (-130), 3) := by decide +kernel
theorem dX11_says_165 : decode cX11_says 165 = .ok (.aload_n 0, 1) := by decide +kernel
theorem dX11_says_166 : decode cX11_says 166 = .ok (.lload_n 2, 1) := by decide +kernel
theorem dX11_says_167 : decode cX11_says 167 = .ok (.lload 4, 2) := by decide +kernel
theorem dX11_says_169 : decode cX11_says 169 = .ok (.invokevirtual 163, 3) := by decide +kernel
theorem dX11_says_172 : decode cX11_says 172 = .ok (.ireturn, 1) := by decide +kernel
theorem dX11_isYear_0 : decode cX11_isYear 0 = .ok (.iload_n 0, 1) := by decide +kernel
theorem dX11_isYear_1 : decode cX11_isYear 1 = .ok (.i2l, 1) := by decide +kernel
theorem dX11_isYear_2 : decode cX11_isYear 2 = .ok (.lconst 0, 1) := by decide +kernel
theorem dX11_isYear_3 : decode cX11_isYear 3 = .ok (.ldc2_w 140, 3) := by decide +kernel
theorem dX11_isYear_6 : decode cX11_isYear 6 = .ok (.invokestatic 120, 3) := by decide +kernel
theorem dX11_isYear_9 : decode cX11_isYear 9 = .ok (.ireturn, 1) := by decide +kernel
theorem dX11_wordsIn_0 : decode cX11_wordsIn 0 = .ok (.iconst 0, 1) := by decide +kernel
theorem dX11_wordsIn_1 : decode cX11_wordsIn 1 = .ok (.istore 4, 2) := by decide +kernel
theorem dX11_wordsIn_3 : decode cX11_wordsIn 3 = .ok (.iconst 0, 1) := by decide +kernel
theorem dX11_wordsIn_4 : decode cX11_wordsIn 4 = .ok (.istore 5, 2) := by decide +kernel
theorem dX11_wordsIn_6 : decode cX11_wordsIn 6 = .ok (.iload 5, 2) := by decide +kernel
theorem dX11_wordsIn_8 : decode cX11_wordsIn 8 = .ok (.aload_n 0, 1) := by decide +kernel
theorem dX11_wordsIn_9 : decode cX11_wordsIn 9 = .ok (.getfield 16, 3) := by decide +kernel
theorem dX11_wordsIn_12 : decode cX11_wordsIn 12 = .ok (.iconst 3, 1) := by decide +kernel
theorem dX11_wordsIn_13 : decode cX11_wordsIn 13 = .ok (.iaload, 1) := by decide +kernel
theorem dX11_wordsIn_14 : decode cX11_wordsIn 14 = .ok (.if_icmp .ge 101, 3) := by decide +kernel
theorem dX11_wordsIn_17 : decode cX11_wordsIn 17 = .ok (.iconst 0, 1) := by decide +kernel
theorem dX11_wordsIn_18 : decode cX11_wordsIn 18 = .ok (.istore 6, 2) := by decide +kernel
theorem dX11_wordsIn_20 : decode cX11_wordsIn 20 = .ok (.iload 6, 2) := by decide +kernel
theorem dX11_wordsIn_22 : decode cX11_wordsIn 22 = .ok (.aload_n 0, 1) := by decide +kernel
theorem dX11_wordsIn_23 : decode cX11_wordsIn 23 = .ok (.getfield 43, 3) := by decide +kernel
theorem dX11_wordsIn_26 : decode cX11_wordsIn 26 = .ok (.iload 5, 2) := by decide +kernel
theorem dX11_wordsIn_28 : decode cX11_wordsIn 28 = .ok (.iaload, 1) := by decide +kernel
theorem dX11_wordsIn_29 : decode cX11_wordsIn 29 = .ok (.if_icmp .ge 80, 3) := by decide +kernel
theorem dX11_wordsIn_32 : decode cX11_wordsIn 32 = .ok (.aload_n 0, 1) := by decide +kernel
theorem dX11_wordsIn_33 : decode cX11_wordsIn 33 = .ok (.getfield 40, 3) := by decide +kernel
theorem dX11_wordsIn_36 : decode cX11_wordsIn 36 = .ok (.iload 5, 2) := by decide +kernel
theorem dX11_wordsIn_38 : decode cX11_wordsIn 38 = .ok (.iaload, 1) := by decide +kernel
theorem dX11_wordsIn_39 : decode cX11_wordsIn 39 = .ok (.iload_n 1, 1) := by decide +kernel
theorem dX11_wordsIn_40 : decode cX11_wordsIn 40 = .ok (.if_icmp .ne 23, 3) := by decide +kernel
theorem dX11_wordsIn_43 : decode cX11_wordsIn 43 = .ok (.iload_n 2, 1) := by decide +kernel
theorem dX11_wordsIn_44 : decode cX11_wordsIn 44 = .ok (.iconst (-1), 1) := by decide +kernel
theorem dX11_wordsIn_45 : decode cX11_wordsIn 45 = .ok (.if_icmp .eq 14, 3) := by decide +kernel
theorem dX11_wordsIn_48 : decode cX11_wordsIn 48 = .ok (.aload_n 0, 1) := by decide +kernel
theorem dX11_wordsIn_49 : decode cX11_wordsIn 49 = .ok (.getfield 34, 3) := by decide +kernel
theorem dX11_wordsIn_52 : decode cX11_wordsIn 52 = .ok (.iload 5, 2) := by decide +kernel
theorem dX11_wordsIn_54 : decode cX11_wordsIn 54 = .ok (.iaload, 1) := by decide +kernel
theorem dX11_wordsIn_55 : decode cX11_wordsIn 55 = .ok (.iload_n 2, 1) := by decide +kernel
theorem dX11_wordsIn_56 : decode cX11_wordsIn 56 = .ok (.if_icmp .ne 7, 3) := by decide +kernel
theorem dX11_wordsIn_59 : decode cX11_wordsIn 59 = .ok (.iconst 1, 1) := by decide +kernel
theorem dX11_wordsIn_60 : decode cX11_wordsIn 60 = .ok (.goto 4, 3) := by decide +kernel
theorem dX11_wordsIn_63 : decode cX11_wordsIn 63 = .ok (.iconst 0, 1) := by decide +kernel
theorem dX11_wordsIn_64 : decode cX11_wordsIn 64 = .ok (.istore 7, 2) := by decide +kernel
theorem dX11_wordsIn_66 : decode cX11_wordsIn 66 = .ok (.iload 4, 2) := by decide +kernel
theorem dX11_wordsIn_68 : decode cX11_wordsIn 68 = .ok (.iload 7, 2) := by decide +kernel
theorem dX11_wordsIn_70 : decode cX11_wordsIn 70 = .ok (.ifCond .eq 29, 3) := by decide +kernel
theorem dX11_wordsIn_73 : decode cX11_wordsIn 73 = .ok (.aload_n 0, 1) := by decide +kernel
theorem dX11_wordsIn_74 : decode cX11_wordsIn 74 = .ok (.getfield 19, 3) := by decide +kernel
theorem dX11_wordsIn_77 : decode cX11_wordsIn 77 = .ok (.aload_n 0, 1) := by decide +kernel
theorem dX11_wordsIn_78 : decode cX11_wordsIn 78 = .ok (.getfield 46, 3) := by decide +kernel
theorem dX11_wordsIn_81 : decode cX11_wordsIn 81 = .ok (.bipush 8, 2) := by decide +kernel
theorem dX11_wordsIn_83 : decode cX11_wordsIn 83 = .ok (.iload 5, 2) := by decide +kernel
theorem dX11_wordsIn_85 : decode cX11_wordsIn 85 = .ok (.imul, 1) := by decide +kernel
theorem dX11_wordsIn_86 : decode cX11_wordsIn 86 = .ok (.iload 6, 2) := by decide +kernel
theorem dX11_wordsIn_88 : decode cX11_wordsIn 88 = .ok (.iadd, 1) := by decide +kernel
theorem dX11_wordsIn_89 : decode cX11_wordsIn 89 = .ok (.iaload, 1) := by decide +kernel
theorem dX11_wordsIn_90 : decode cX11_wordsIn 90 = .ok (.iaload, 1) := by decide +kernel
theorem dX11_wordsIn_91 : decode cX11_wordsIn 91 = .ok (.iload_n 3, 1) := by decide +kernel
theorem dX11_wordsIn_92 : decode cX11_wordsIn 92 = .ok (.if_icmp .gt 7, 3) := by decide +kernel
theorem dX11_wordsIn_95 : decode cX11_wordsIn 95 = .ok (.iconst 1, 1) := by decide +kernel
theorem dX11_wordsIn_96 : decode cX11_wordsIn 96 = .ok (.goto 4, 3) := by decide +kernel
theorem dX11_wordsIn_99 : decode cX11_wordsIn 99 = .ok (.iconst 0, 1) := by decide +kernel
theorem dX11_wordsIn_100 : decode cX11_wordsIn 100 = .ok (.iadd, 1) := by decide +kernel
theorem dX11_wordsIn_101 : decode cX11_wordsIn 101 = .ok (.istore 4, 2) := by decide +kernel
theorem dX11_wordsIn_103 : decode cX11_wordsIn 103 = .ok (.iinc 6 1, 3) := by decide +kernel
theorem dX11_wordsIn_106 : decode cX11_wordsIn 106 = .ok (.goto (-86), 3) := by decide +kernel
theorem dX11_wordsIn_109 : decode cX11_wordsIn 109 = .ok (.iinc 5 1, 3) := by decide +kernel
theorem dX11_wordsIn_112 : decode cX11_wordsIn 112 = .ok (.goto (-106), 3) := by decide +kernel
theorem dX11_wordsIn_115 : decode cX11_wordsIn 115 = .ok (.iload 4, 2) := by decide +kernel
theorem dX11_wordsIn_117 : decode cX11_wordsIn 117 = .ok (.ireturn, 1) := by decide +kernel
theorem dX11_year_0 : decode cX11_year 0 = .ok (.iload_n 1, 1) := by decide +kernel
theorem dX11_year_1 : decode cX11_year 1 = .ok (.invokestatic 185, 3) := by decide +kernel
theorem dX11_year_4 : decode cX11_year 4 = .ok (.ifCond .eq 17, 3) := by decide +kernel
theorem dX11_year_7 : decode cX11_year 7 = .ok (.iload_n 2, 1) := by decide +kernel
theorem dX11_year_8 : decode cX11_year 8 = .ok (.iconst (-1), 1) := by decide +kernel
theorem dX11_year_9 : decode cX11_year 9 = .ok (.if_icmp .eq 15, 3) := by decide +kernel
theorem dX11_year_12 : decode cX11_year 12 = .ok (.aload_n 0, 1) := by decide +kernel
theorem dX11_year_13 : decode cX11_year 13 = .ok (.iconst 1, 1) := by decide +kernel
theorem dX11_year_14 : decode cX11_year 14 = .ok (.iload_n 2, 1) := by decide +kernel
theorem dX11_year_15 : decode cX11_year 15 = .ok (.invokevirtual 136, 3) := by decide +kernel
theorem dX11_year_18 : decode cX11_year 18 = .ok (.ifCond .ne 6, 3) := by decide +kernel
theorem dX11_year_21 : decode cX11_year 21 = .ok (.bipush (-2), 2) := by decide +kernel
theorem dX11_year_23 : decode cX11_year 23 = .ok (.ireturn, 1) := by decide +kernel
theorem dX11_year_24 : decode cX11_year 24 = .ok (.aload_n 0, 1) := by decide +kernel
theorem dX11_year_25 : decode cX11_year 25 = .ok (.iload_n 1, 1) := by decide +kernel
theorem dX11_year_26 : decode cX11_year 26 = .ok (.iload_n 2, 1) := by decide +kernel
theorem dX11_year_27 : decode cX11_year 27 = .ok (.bipush 9, 2) := by decide +kernel
theorem dX11_year_29 : decode cX11_year 29 = .ok (.invokevirtual 188, 3) := by decide +kernel
theorem dX11_year_32 : decode cX11_year 32 = .ok (.istore_n 3, 1) := by decide +kernel
theorem dX11_year_33 : decode cX11_year 33 = .ok (.iconst 0, 1) := by decide +kernel
theorem dX11_year_34 : decode cX11_year 34 = .ok (.istore 4, 2) := by decide +kernel
theorem dX11_year_36 : decode cX11_year 36 = .ok (.iconst 0, 1) := by decide +kernel
theorem dX11_year_37 : decode cX11_year 37 = .ok (.istore 5, 2) := by decide +kernel
theorem dX11_year_39 : decode cX11_year 39 = .ok (.iload 5, 2) := by decide +kernel
theorem dX11_year_41 : decode cX11_year 41 = .ok (.bipush 9, 2) := by decide +kernel
theorem dX11_year_43 : decode cX11_year 43 = .ok (.if_icmp .ge 24, 3) := by decide +kernel
theorem dX11_year_46 : decode cX11_year 46 = .ok (.iload 4, 2) := by decide +kernel
theorem dX11_year_48 : decode cX11_year 48 = .ok (.iload_n 3, 1) := by decide +kernel
theorem dX11_year_49 : decode cX11_year 49 = .ok (.aload_n 0, 1) := by decide +kernel
theorem dX11_year_50 : decode cX11_year 50 = .ok (.iload_n 1, 1) := by decide +kernel
theorem dX11_year_51 : decode cX11_year 51 = .ok (.iload_n 2, 1) := by decide +kernel
theorem dX11_year_52 : decode cX11_year 52 = .ok (.iload 5, 2) := by decide +kernel
theorem dX11_year_54 : decode cX11_year 54 = .ok (.invokevirtual 188, 3) := by decide +kernel
theorem dX11_year_57 : decode cX11_year 57 = .ok (.isub, 1) := by decide +kernel
theorem dX11_year_58 : decode cX11_year 58 = .ok (.iadd, 1) := by decide +kernel
theorem dX11_year_59 : decode cX11_year 59 = .ok (.istore 4, 2) := by decide +kernel
theorem dX11_year_61 : decode cX11_year 61 = .ok (.iinc 5 1, 3) := by decide +kernel
theorem dX11_year_64 : decode cX11_year 64 = .ok (.goto (-25), 3) := by decide +kernel
theorem dX11_year_67 : decode cX11_year 67 = .ok (.iload_n 3, 1) := by decide +kernel
theorem dX11_year_68 : decode cX11_year 68 = .ok (.ifCond .ne 8, 3) := by decide +kernel
theorem dX11_year_71 : decode cX11_year 71 = .ok (.bipush (-3), 2) := by decide +kernel
theorem dX11_year_73 : decode cX11_year 73 = .ok (.goto 12, 3) := by decide +kernel
theorem dX11_year_76 : decode cX11_year 76 = .ok (.aload_n 0, 1) := by decide +kernel
theorem dX11_year_77 : decode cX11_year 77 = .ok (.iload 4, 2) := by decide +kernel
theorem dX11_year_79 : decode cX11_year 79 = .ok (.i2l, 1) := by decide +kernel
theorem dX11_year_80 : decode cX11_year 80 = .ok (.iload_n 3, 1) := by decide +kernel
theorem dX11_year_81 : decode cX11_year 81 = .ok (.i2l, 1) := by decide +kernel
theorem dX11_year_82 : decode cX11_year 82 = .ok (.invokevirtual 163, 3) := by decide +kernel
theorem dX11_year_85 : decode cX11_year 85 = .ok (.ireturn, 1) := by decide +kernel
theorem dX11_asIn_0 : decode cX11_asIn 0 = .ok (.iload_n 1, 1) := by decide +kernel
theorem dX11_asIn_1 : decode cX11_asIn 1 = .ok (.i2l, 1) := by decide +kernel
theorem dX11_asIn_2 : decode cX11_asIn 2 = .ok (.lconst 0, 1) := by decide +kernel
theorem dX11_asIn_3 : decode cX11_asIn 3 = .ok (.ldc2_w 124, 3) := by decide +kernel
theorem dX11_asIn_6 : decode cX11_asIn 6 = .ok (.invokestatic 120, 3) := by decide +kernel
theorem dX11_asIn_9 : decode cX11_asIn 9 = .ok (.ifCond .eq 17, 3) := by decide +kernel
theorem dX11_asIn_12 : decode cX11_asIn 12 = .ok (.iload_n 2, 1) := by decide +kernel
theorem dX11_asIn_13 : decode cX11_asIn 13 = .ok (.invokestatic 185, 3) := by decide +kernel
theorem dX11_asIn_16 : decode cX11_asIn 16 = .ok (.ifCond .eq 10, 3) := by decide +kernel
theorem dX11_asIn_19 : decode cX11_asIn 19 = .ok (.iload_n 3, 1) := by decide +kernel
theorem dX11_asIn_20 : decode cX11_asIn 20 = .ok (.invokestatic 185, 3) := by decide +kernel
theorem dX11_asIn_23 : decode cX11_asIn 23 = .ok (.ifCond .ne 6, 3) := by decide +kernel
theorem dX11_asIn_26 : decode cX11_asIn 26 = .ok (.bipush (-2), 2) := by decide +kernel
theorem dX11_asIn_28 : decode cX11_asIn 28 = .ok (.ireturn, 1) := by decide +kernel
theorem dX11_asIn_29 : decode cX11_asIn 29 = .ok (.aload_n 0, 1) := by decide +kernel
theorem dX11_asIn_30 : decode cX11_asIn 30 = .ok (.iload_n 2, 1) := by decide +kernel
theorem dX11_asIn_31 : decode cX11_asIn 31 = .ok (.iconst (-1), 1) := by decide +kernel
theorem dX11_asIn_32 : decode cX11_asIn 32 = .ok (.bipush 9, 2) := by decide +kernel
theorem dX11_asIn_34 : decode cX11_asIn 34 = .ok (.invokevirtual 188, 3) := by decide +kernel
theorem dX11_asIn_37 : decode cX11_asIn 37 = .ok (.istore 4, 2) := by decide +kernel
theorem dX11_asIn_39 : decode cX11_asIn 39 = .ok (.aload_n 0, 1) := by decide +kernel
theorem dX11_asIn_40 : decode cX11_asIn 40 = .ok (.iload_n 3, 1) := by decide +kernel
theorem dX11_asIn_41 : decode cX11_asIn 41 = .ok (.iconst (-1), 1) := by decide +kernel
theorem dX11_asIn_42 : decode cX11_asIn 42 = .ok (.bipush 9, 2) := by decide +kernel
theorem dX11_asIn_44 : decode cX11_asIn 44 = .ok (.invokevirtual 188, 3) := by decide +kernel
theorem dX11_asIn_47 : decode cX11_asIn 47 = .ok (.istore 5, 2) := by decide +kernel
theorem dX11_asIn_49 : decode cX11_asIn 49 = .ok (.iload 4, 2) := by decide +kernel
theorem dX11_asIn_51 : decode cX11_asIn 51 = .ok (.ifCond .eq 8, 3) := by decide +kernel
theorem dX11_asIn_54 : decode cX11_asIn 54 = .ok (.iload 5, 2) := by decide +kernel
theorem dX11_asIn_56 : decode cX11_asIn 56 = .ok (.ifCond .ne 6, 3) := by decide +kernel
theorem dX11_asIn_59 : decode cX11_asIn 59 = .ok (.bipush (-3), 2) := by decide +kernel
theorem dX11_asIn_61 : decode cX11_asIn 61 = .ok (.ireturn, 1) := by decide +kernel
theorem dX11_asIn_62 : decode cX11_asIn 62 = .ok (.aload_n 0, 1) := by decide +kernel
theorem dX11_asIn_63 : decode cX11_asIn 63 = .ok (.iload_n 2, 1) := by decide +kernel
theorem dX11_asIn_64 : decode cX11_asIn 64 = .ok (.iconst (-1), 1) := by decide +kernel
theorem dX11_asIn_65 : decode cX11_asIn 65 = .ok (.iload_n 1, 1) := by decide +kernel
theorem dX11_asIn_66 : decode cX11_asIn 66 = .ok (.invokevirtual 188, 3) := by decide +kernel
theorem dX11_asIn_69 : decode cX11_asIn 69 = .ok (.istore 6, 2) := by decide +kernel
theorem dX11_asIn_71 : decode cX11_asIn 71 = .ok (.iconst 0, 1) := by decide +kernel
theorem dX11_asIn_72 : decode cX11_asIn 72 = .ok (.istore 7, 2) := by decide +kernel
theorem dX11_asIn_74 : decode cX11_asIn 74 = .ok (.aload_n 0, 1) := by decide +kernel
theorem dX11_asIn_75 : decode cX11_asIn 75 = .ok (.iload_n 3, 1) := by decide +kernel
theorem dX11_asIn_76 : decode cX11_asIn 76 = .ok (.iconst (-1), 1) := by decide +kernel
theorem dX11_asIn_77 : decode cX11_asIn 77 = .ok (.iload 7, 2) := by decide +kernel
theorem dX11_asIn_79 : decode cX11_asIn 79 = .ok (.invokevirtual 188, 3) := by decide +kernel
theorem dX11_asIn_82 : decode cX11_asIn 82 = .ok (.iload 4, 2) := by decide +kernel
theorem dX11_asIn_84 : decode cX11_asIn 84 = .ok (.imul, 1) := by decide +kernel
theorem dX11_asIn_85 : decode cX11_asIn 85 = .ok (.iload 6, 2) := by decide +kernel
theorem dX11_asIn_87 : decode cX11_asIn 87 = .ok (.iload 5, 2) := by decide +kernel
theorem dX11_asIn_89 : decode cX11_asIn 89 = .ok (.imul, 1) := by decide +kernel
theorem dX11_asIn_90 : decode cX11_asIn 90 = .ok (.if_icmp .ge 9, 3) := by decide +kernel
theorem dX11_asIn_93 : decode cX11_asIn 93 = .ok (.iinc 7 1, 3) := by decide +kernel
theorem dX11_asIn_96 : decode cX11_asIn 96 = .ok (.goto (-22), 3) := by decide +kernel
theorem dX11_asIn_99 : decode cX11_asIn 99 = .ok (.iload 7, 2) := by decide +kernel
theorem dX11_asIn_101 : decode cX11_asIn 101 = .ok (.ireturn, 1) := by decide +kernel
theorem dX11_lettersOf_0 : decode cX11_lettersOf 0 = .ok (.iconst 0, 1) := by decide +kernel
theorem dX11_lettersOf_1 : decode cX11_lettersOf 1 = .ok (.istore 5, 2) := by decide +kernel
theorem dX11_lettersOf_3 : decode cX11_lettersOf 3 = .ok (.iconst 0, 1) := by decide +kernel
theorem dX11_lettersOf_4 : decode cX11_lettersOf 4 = .ok (.istore 6, 2) := by decide +kernel
theorem dX11_lettersOf_6 : decode cX11_lettersOf 6 = .ok (.iload 6, 2) := by decide +kernel
theorem dX11_lettersOf_8 : decode cX11_lettersOf 8 = .ok (.aload_n 0, 1) := by decide +kernel
theorem dX11_lettersOf_9 : decode cX11_lettersOf 9 = .ok (.getfield 16, 3) := by decide +kernel
theorem dX11_lettersOf_12 : decode cX11_lettersOf 12 = .ok (.iconst 3, 1) := by decide +kernel
theorem dX11_lettersOf_13 : decode cX11_lettersOf 13 = .ok (.iaload, 1) := by decide +kernel
theorem dX11_lettersOf_14 : decode cX11_lettersOf 14 = .ok (.if_icmp .ge 78, 3) := by decide +kernel
theorem dX11_lettersOf_17 : decode cX11_lettersOf 17 = .ok (.aload_n 0, 1) := by decide +kernel
theorem dX11_lettersOf_18 : decode cX11_lettersOf 18 = .ok (.getfield 31, 3) := by decide +kernel
theorem dX11_lettersOf_21 : decode cX11_lettersOf 21 = .ok (.aload_n 0, 1) := by decide +kernel
theorem dX11_lettersOf_22 : decode cX11_lettersOf 22 = .ok (.getfield 37, 3) := by decide +kernel
theorem dX11_lettersOf_25 : decode cX11_lettersOf 25 = .ok (.iload 6, 2) := by decide +kernel
theorem dX11_lettersOf_27 : decode cX11_lettersOf 27 = .ok (.iaload, 1) := by decide +kernel
theorem dX11_lettersOf_28 : decode cX11_lettersOf 28 = .ok (.iaload, 1) := by decide +kernel
theorem dX11_lettersOf_29 : decode cX11_lettersOf 29 = .ok (.iload_n 2, 1) := by decide +kernel
theorem dX11_lettersOf_30 : decode cX11_lettersOf 30 = .ok (.if_icmp .ne 23, 3) := by decide +kernel
theorem dX11_lettersOf_33 : decode cX11_lettersOf 33 = .ok (.aload_n 0, 1) := by decide +kernel
theorem dX11_lettersOf_34 : decode cX11_lettersOf 34 = .ok (.getfield 28, 3) := by decide +kernel
theorem dX11_lettersOf_37 : decode cX11_lettersOf 37 = .ok (.aload_n 0, 1) := by decide +kernel
theorem dX11_lettersOf_38 : decode cX11_lettersOf 38 = .ok (.getfield 37, 3) := by decide +kernel
theorem dX11_lettersOf_41 : decode cX11_lettersOf 41 = .ok (.iload 6, 2) := by decide +kernel
theorem dX11_lettersOf_43 : decode cX11_lettersOf 43 = .ok (.iaload, 1) := by decide +kernel
theorem dX11_lettersOf_44 : decode cX11_lettersOf 44 = .ok (.iaload, 1) := by decide +kernel
theorem dX11_lettersOf_45 : decode cX11_lettersOf 45 = .ok (.iload_n 3, 1) := by decide +kernel
theorem dX11_lettersOf_46 : decode cX11_lettersOf 46 = .ok (.if_icmp .ne 7, 3) := by decide +kernel
theorem dX11_lettersOf_49 : decode cX11_lettersOf 49 = .ok (.iconst 1, 1) := by decide +kernel
theorem dX11_lettersOf_50 : decode cX11_lettersOf 50 = .ok (.goto 4, 3) := by decide +kernel
theorem dX11_lettersOf_53 : decode cX11_lettersOf 53 = .ok (.iconst 0, 1) := by decide +kernel
theorem dX11_lettersOf_54 : decode cX11_lettersOf 54 = .ok (.istore 7, 2) := by decide +kernel
theorem dX11_lettersOf_56 : decode cX11_lettersOf 56 = .ok (.iload 5, 2) := by decide +kernel
theorem dX11_lettersOf_58 : decode cX11_lettersOf 58 = .ok (.iload 7, 2) := by decide +kernel
theorem dX11_lettersOf_60 : decode cX11_lettersOf 60 = .ok (.ifCond .eq 22, 3) := by decide +kernel
theorem dX11_lettersOf_63 : decode cX11_lettersOf 63 = .ok (.iload 4, 2) := by decide +kernel
theorem dX11_lettersOf_65 : decode cX11_lettersOf 65 = .ok (.ifCond .eq 13, 3) := by decide +kernel
theorem dX11_lettersOf_68 : decode cX11_lettersOf 68 = .ok (.aload_n 0, 1) := by decide +kernel
theorem dX11_lettersOf_69 : decode cX11_lettersOf 69 = .ok (.iload 6, 2) := by decide +kernel
theorem dX11_lettersOf_71 : decode cX11_lettersOf 71 = .ok (.iload_n 1, 1) := by decide +kernel
theorem dX11_lettersOf_72 : decode cX11_lettersOf 72 = .ok (.invokevirtual 145, 3) := by decide +kernel
theorem dX11_lettersOf_75 : decode cX11_lettersOf 75 = .ok (.ifCond .le 7, 3) := by decide +kernel
theorem dX11_lettersOf_78 : decode cX11_lettersOf 78 = .ok (.iconst 1, 1) := by decide +kernel
theorem dX11_lettersOf_79 : decode cX11_lettersOf 79 = .ok (.goto 4, 3) := by decide +kernel
theorem dX11_lettersOf_82 : decode cX11_lettersOf 82 = .ok (.iconst 0, 1) := by decide +kernel
theorem dX11_lettersOf_83 : decode cX11_lettersOf 83 = .ok (.iadd, 1) := by decide +kernel
theorem dX11_lettersOf_84 : decode cX11_lettersOf 84 = .ok (.istore 5, 2) := by decide +kernel
theorem dX11_lettersOf_86 : decode cX11_lettersOf 86 = .ok (.iinc 6 1, 3) := by decide +kernel
theorem dX11_lettersOf_89 : decode cX11_lettersOf 89 = .ok (.goto (-83), 3) := by decide +kernel
theorem dX11_lettersOf_92 : decode cX11_lettersOf 92 = .ok (.iload 5, 2) := by decide +kernel
theorem dX11_lettersOf_94 : decode cX11_lettersOf 94 = .ok (.ireturn, 1) := by decide +kernel
theorem dX11_isAbout_0 : decode cX11_isAbout 0 = .ok (.aload_n 0, 1) := by decide +kernel
theorem dX11_isAbout_1 : decode cX11_isAbout 1 = .ok (.iconst 0, 1) := by decide +kernel
theorem dX11_isAbout_2 : decode cX11_isAbout 2 = .ok (.iload_n 1, 1) := by decide +kernel
theorem dX11_isAbout_3 : decode cX11_isAbout 3 = .ok (.invokevirtual 136, 3) := by decide +kernel
theorem dX11_isAbout_6 : decode cX11_isAbout 6 = .ok (.ifCond .eq 14, 3) := by decide +kernel
theorem dX11_isAbout_9 : decode cX11_isAbout 9 = .ok (.iload_n 2, 1) := by decide +kernel
theorem dX11_isAbout_10 : decode cX11_isAbout 10 = .ok (.invokestatic 142, 3) := by decide +kernel
theorem dX11_isAbout_13 : decode cX11_isAbout 13 = .ok (.ifCond .eq 7, 3) := by decide +kernel
theorem dX11_isAbout_16 : decode cX11_isAbout 16 = .ok (.iconst 1, 1) := by decide +kernel
theorem dX11_isAbout_17 : decode cX11_isAbout 17 = .ok (.goto 4, 3) := by decide +kernel
theorem dX11_isAbout_20 : decode cX11_isAbout 20 = .ok (.iconst 0, 1) := by decide +kernel
theorem dX11_isAbout_21 : decode cX11_isAbout 21 = .ok (.ireturn, 1) := by decide +kernel
theorem dX11_about_0 : decode cX11_about 0 = .ok (.aload_n 0, 1) := by decide +kernel
theorem dX11_about_1 : decode cX11_about 1 = .ok (.iload_n 1, 1) := by decide +kernel
theorem dX11_about_2 : decode cX11_about 2 = .ok (.iload_n 2, 1) := by decide +kernel
theorem dX11_about_3 : decode cX11_about 3 = .ok (.invokevirtual 191, 3) := by decide +kernel
theorem dX11_about_6 : decode cX11_about 6 = .ok (.ifCond .eq 41, 3) := by decide +kernel
theorem dX11_about_9 : decode cX11_about 9 = .ok (.iload_n 3, 1) := by decide +kernel
theorem dX11_about_10 : decode cX11_about 10 = .ok (.i2l, 1) := by decide +kernel
theorem dX11_about_11 : decode cX11_about 11 = .ok (.lconst 0, 1) := by decide +kernel
theorem dX11_about_12 : decode cX11_about 12 = .ok (.ldc2_w 134, 3) := by decide +kernel
theorem dX11_about_15 : decode cX11_about 15 = .ok (.invokestatic 120, 3) := by decide +kernel
theorem dX11_about_18 : decode cX11_about 18 = .ok (.ifCond .eq 29, 3) := by decide +kernel
theorem dX11_about_21 : decode cX11_about 21 = .ok (.aload_n 0, 1) := by decide +kernel
theorem dX11_about_22 : decode cX11_about 22 = .ok (.iload_n 1, 1) := by decide +kernel
theorem dX11_about_23 : decode cX11_about 23 = .ok (.iload_n 2, 1) := by decide +kernel
theorem dX11_about_24 : decode cX11_about 24 = .ok (.iconst 1, 1) := by decide +kernel
theorem dX11_about_25 : decode cX11_about 25 = .ok (.iload_n 3, 1) := by decide +kernel
theorem dX11_about_26 : decode cX11_about 26 = .ok (.iconst 2, 1) := by decide +kernel
theorem dX11_about_27 : decode cX11_about 27 = .ok (.idiv, 1) := by decide +kernel
theorem dX11_about_28 : decode cX11_about 28 = .ok (.iadd, 1) := by decide +kernel
theorem dX11_about_29 : decode cX11_about 29 = .ok (.iload_n 3, 1) := by decide +kernel
theorem dX11_about_30 : decode cX11_about 30 = .ok (.iconst 2, 1) := by decide +kernel
theorem dX11_about_31 : decode cX11_about 31 = .ok (.irem, 1) := by decide +kernel
theorem dX11_about_32 : decode cX11_about 32 = .ok (.iconst 1, 1) := by decide +kernel
theorem dX11_about_33 : decode cX11_about 33 = .ok (.if_icmp .ne 7, 3) := by decide +kernel
theorem dX11_about_36 : decode cX11_about 36 = .ok (.iconst 1, 1) := by decide +kernel
theorem dX11_about_37 : decode cX11_about 37 = .ok (.goto 4, 3) := by decide +kernel
theorem dX11_about_40 : decode cX11_about 40 = .ok (.iconst 0, 1) := by decide +kernel
theorem dX11_about_41 : decode cX11_about 41 = .ok (.invokevirtual 194, 3) := by decide +kernel
theorem dX11_about_44 : decode cX11_about 44 = .ok (.goto 5, 3) := by decide +kernel
theorem dX11_about_47 : decode cX11_about 47 = .ok (.bipush (-2), 2) := by decide +kernel
theorem dX11_about_49 : decode cX11_about 49 = .ok (.ireturn, 1) := by decide +kernel
theorem dX11_ways_0 : decode cX11_ways 0 = .ok (.iload_n 1, 1) := by decide +kernel
theorem dX11_ways_1 : decode cX11_ways 1 = .ok (.ifCond .lt 8, 3) := by decide +kernel
theorem dX11_ways_4 : decode cX11_ways 4 = .ok (.iload_n 1, 1) := by decide +kernel
theorem dX11_ways_5 : decode cX11_ways 5 = .ok (.iload_n 0, 1) := by decide +kernel
theorem dX11_ways_6 : decode cX11_ways 6 = .ok (.if_icmp .le 5, 3) := by decide +kernel
theorem dX11_ways_9 : decode cX11_ways 9 = .ok (.lconst 0, 1) := by decide +kernel
theorem dX11_ways_10 : decode cX11_ways 10 = .ok (.lreturn, 1) := by decide +kernel
theorem dX11_ways_11 : decode cX11_ways 11 = .ok (.lconst 1, 1) := by decide +kernel
theorem dX11_ways_12 : decode cX11_ways 12 = .ok (.lstore_n 2, 1) := by decide +kernel
theorem dX11_ways_13 : decode cX11_ways 13 = .ok (.iconst 0, 1) := by decide +kernel
theorem dX11_ways_14 : decode cX11_ways 14 = .ok (.istore 4, 2) := by decide +kernel
theorem dX11_ways_16 : decode cX11_ways 16 = .ok (.iload 4, 2) := by decide +kernel
theorem dX11_ways_18 : decode cX11_ways 18 = .ok (.iload_n 1, 1) := by decide +kernel
theorem dX11_ways_19 : decode cX11_ways 19 = .ok (.if_icmp .ge 23, 3) := by decide +kernel
theorem dX11_ways_22 : decode cX11_ways 22 = .ok (.lload_n 2, 1) := by decide +kernel
theorem dX11_ways_23 : decode cX11_ways 23 = .ok (.iload_n 0, 1) := by decide +kernel
theorem dX11_ways_24 : decode cX11_ways 24 = .ok (.iload 4, 2) := by decide +kernel
theorem dX11_ways_26 : decode cX11_ways 26 = .ok (.isub, 1) := by decide +kernel
theorem dX11_ways_27 : decode cX11_ways 27 = .ok (.i2l, 1) := by decide +kernel
theorem dX11_ways_28 : decode cX11_ways 28 = .ok (.lmul, 1) := by decide +kernel
theorem dX11_ways_29 : decode cX11_ways 29 = .ok (.iload 4, 2) := by decide +kernel
theorem dX11_ways_31 : decode cX11_ways 31 = .ok (.iconst 1, 1) := by decide +kernel
theorem dX11_ways_32 : decode cX11_ways 32 = .ok (.iadd, 1) := by decide +kernel
theorem dX11_ways_33 : decode cX11_ways 33 = .ok (.i2l, 1) := by decide +kernel
theorem dX11_ways_34 : decode cX11_ways 34 = .ok (.ldiv, 1) := by decide +kernel
theorem dX11_ways_35 : decode cX11_ways 35 = .ok (.lstore_n 2, 1) := by decide +kernel
theorem dX11_ways_36 : decode cX11_ways 36 = .ok (.iinc 4 1, 3) := by decide +kernel
theorem dX11_ways_39 : decode cX11_ways 39 = .ok (.goto (-23), 3) := by decide +kernel
theorem dX11_ways_42 : decode cX11_ways 42 = .ok (.lload_n 2, 1) := by decide +kernel
theorem dX11_ways_43 : decode cX11_ways 43 = .ok (.lreturn, 1) := by decide +kernel
theorem dX11_chance_0 : decode cX11_chance 0 = .ok (.aload_n 0, 1) := by decide +kernel
theorem dX11_chance_1 : decode cX11_chance 1 = .ok (.iload_n 1, 1) := by decide +kernel
theorem dX11_chance_2 : decode cX11_chance 2 = .ok (.iload_n 2, 1) := by decide +kernel
theorem dX11_chance_3 : decode cX11_chance 3 = .ok (.invokevirtual 191, 3) := by decide +kernel
theorem dX11_chance_6 : decode cX11_chance 6 = .ok (.ifCond .eq 13, 3) := by decide +kernel
theorem dX11_chance_9 : decode cX11_chance 9 = .ok (.iload_n 3, 1) := by decide +kernel
theorem dX11_chance_10 : decode cX11_chance 10 = .ok (.i2l, 1) := by decide +kernel
theorem dX11_chance_11 : decode cX11_chance 11 = .ok (.lconst 0, 1) := by decide +kernel
theorem dX11_chance_12 : decode cX11_chance 12 = .ok (.lconst 1, 1) := by decide +kernel
theorem dX11_chance_13 : decode cX11_chance 13 = .ok (.invokestatic 120, 3) := by decide +kernel
theorem dX11_chance_16 : decode cX11_chance 16 = .ok (.ifCond .ne 6, 3) := by decide +kernel
theorem dX11_chance_19 : decode cX11_chance 19 = .ok (.bipush (-2), 2) := by decide +kernel
theorem dX11_chance_21 : decode cX11_chance 21 = .ok (.ireturn, 1) := by decide +kernel
theorem dX11_chance_22 : decode cX11_chance 22 = .ok (.aload_n 0, 1) := by decide +kernel
theorem dX11_chance_23 : decode cX11_chance 23 = .ok (.iload_n 1, 1) := by decide +kernel
theorem dX11_chance_24 : decode cX11_chance 24 = .ok (.iload_n 2, 1) := by decide +kernel
theorem dX11_chance_25 : decode cX11_chance 25 = .ok (.iconst 1, 1) := by decide +kernel
theorem dX11_chance_26 : decode cX11_chance 26 = .ok (.iconst 0, 1) := by decide +kernel
theorem dX11_chance_27 : decode cX11_chance 27 = .ok (.invokevirtual 194, 3) := by decide +kernel
theorem dX11_chance_30 : decode cX11_chance 30 = .ok (.istore 4, 2) := by decide +kernel
theorem dX11_chance_32 : decode cX11_chance 32 = .ok (.aload_n 0, 1) := by decide +kernel
theorem dX11_chance_33 : decode cX11_chance 33 = .ok (.iload_n 1, 1) := by decide +kernel
theorem dX11_chance_34 : decode cX11_chance 34 = .ok (.iload_n 2, 1) := by decide +kernel
theorem dX11_chance_35 : decode cX11_chance 35 = .ok (.iconst 1, 1) := by decide +kernel
theorem dX11_chance_36 : decode cX11_chance 36 = .ok (.iconst 1, 1) := by decide +kernel
theorem dX11_chance_37 : decode cX11_chance 37 = .ok (.invokevirtual 194, 3) := by decide +kernel
theorem dX11_chance_40 : decode cX11_chance 40 = .ok (.istore 5, 2) := by decide +kernel
theorem dX11_chance_42 : decode cX11_chance 42 = .ok (.aload_n 0, 1) := by decide +kernel
theorem dX11_chance_43 : decode cX11_chance 43 = .ok (.iload_n 1, 1) := by decide +kernel
theorem dX11_chance_44 : decode cX11_chance 44 = .ok (.iload_n 2, 1) := by decide +kernel
theorem dX11_chance_45 : decode cX11_chance 45 = .ok (.iconst 2, 1) := by decide +kernel
theorem dX11_chance_46 : decode cX11_chance 46 = .ok (.iconst 0, 1) := by decide +kernel
theorem dX11_chance_47 : decode cX11_chance 47 = .ok (.invokevirtual 194, 3) := by decide +kernel
theorem dX11_chance_50 : decode cX11_chance 50 = .ok (.istore 6, 2) := by decide +kernel
theorem dX11_chance_52 : decode cX11_chance 52 = .ok (.iload 5, 2) := by decide +kernel
theorem dX11_chance_54 : decode cX11_chance 54 = .ok (.aload_n 0, 1) := by decide +kernel
theorem dX11_chance_55 : decode cX11_chance 55 = .ok (.iload_n 1, 1) := by decide +kernel
theorem dX11_chance_56 : decode cX11_chance 56 = .ok (.iload_n 2, 1) := by decide +kernel
theorem dX11_chance_57 : decode cX11_chance 57 = .ok (.iconst 2, 1) := by decide +kernel
theorem dX11_chance_58 : decode cX11_chance 58 = .ok (.iconst 1, 1) := by decide +kernel
theorem dX11_chance_59 : decode cX11_chance 59 = .ok (.invokevirtual 194, 3) := by decide +kernel
theorem dX11_chance_62 : decode cX11_chance 62 = .ok (.iadd, 1) := by decide +kernel
theorem dX11_chance_63 : decode cX11_chance 63 = .ok (.istore 7, 2) := by decide +kernel
theorem dX11_chance_65 : decode cX11_chance 65 = .ok (.lconst 0, 1) := by decide +kernel
theorem dX11_chance_66 : decode cX11_chance 66 = .ok (.lstore 8, 2) := by decide +kernel
theorem dX11_chance_68 : decode cX11_chance 68 = .ok (.iload 5, 2) := by decide +kernel
theorem dX11_chance_70 : decode cX11_chance 70 = .ok (.istore 10, 2) := by decide +kernel
theorem dX11_chance_72 : decode cX11_chance 72 = .ok (.iload 10, 2) := by decide +kernel
theorem dX11_chance_74 : decode cX11_chance 74 = .ok (.iload 7, 2) := by decide +kernel
theorem dX11_chance_76 : decode cX11_chance 76 = .ok (.if_icmp .gt 32, 3) := by decide +kernel
theorem dX11_chance_79 : decode cX11_chance 79 = .ok (.lload 8, 2) := by decide +kernel
theorem dX11_chance_81 : decode cX11_chance 81 = .ok (.iload 4, 2) := by decide +kernel
theorem dX11_chance_83 : decode cX11_chance 83 = .ok (.iload 10, 2) := by decide +kernel
theorem dX11_chance_85 : decode cX11_chance 85 = .ok (.invokestatic 198, 3) := by decide +kernel
theorem dX11_chance_88 : decode cX11_chance 88 = .ok (.iload 6, 2) := by decide +kernel
theorem dX11_chance_90 : decode cX11_chance 90 = .ok (.iload 7, 2) := by decide +kernel
theorem dX11_chance_92 : decode cX11_chance 92 = .ok (.iload 10, 2) := by decide +kernel
theorem dX11_chance_94 : decode cX11_chance 94 = .ok (.isub, 1) := by decide +kernel
theorem dX11_chance_95 : decode cX11_chance 95 = .ok (.invokestatic 198, 3) := by decide +kernel
theorem dX11_chance_98 : decode cX11_chance 98 = .ok (.lmul, 1) := by decide +kernel
theorem dX11_chance_99 : decode cX11_chance 99 = .ok (.ladd, 1) := by decide +kernel
theorem dX11_chance_100 : decode cX11_chance 100 = .ok (.lstore 8, 2) := by decide +kernel
theorem dX11_chance_102 : decode cX11_chance 102 = .ok (.iinc 10 1, 3) := by decide +kernel
theorem dX11_chance_105 : decode cX11_chance 105 = .ok (.goto (-33), 3) := by decide +kernel
theorem dX11_chance_108 : decode cX11_chance 108 = .ok (.iload 4, 2) := by decide +kernel
theorem dX11_chance_110 : decode cX11_chance 110 = .ok (.iload 6, 2) := by decide +kernel
theorem dX11_chance_112 : decode cX11_chance 112 = .ok (.iadd, 1) := by decide +kernel
theorem dX11_chance_113 : decode cX11_chance 113 = .ok (.iload 7, 2) := by decide +kernel
theorem dX11_chance_115 : decode cX11_chance 115 = .ok (.invokestatic 198, 3) := by decide +kernel
theorem dX11_chance_118 : decode cX11_chance 118 = .ok (.lstore 10, 2) := by decide +kernel
theorem dX11_chance_120 : decode cX11_chance 120 = .ok (.iload_n 3, 1) := by decide +kernel
theorem dX11_chance_121 : decode cX11_chance 121 = .ok (.ifCond .ne 8, 3) := by decide +kernel
theorem dX11_chance_124 : decode cX11_chance 124 = .ok (.lload 8, 2) := by decide +kernel
theorem dX11_chance_126 : decode cX11_chance 126 = .ok (.goto 13, 3) := by decide +kernel
theorem dX11_chance_129 : decode cX11_chance 129 = .ok (.lload 8, 2) := by decide +kernel
theorem dX11_chance_131 : decode cX11_chance 131 = .ok (.aload_n 0, 1) := by decide +kernel
theorem dX11_chance_132 : decode cX11_chance 132 = .ok (.getfield 16, 3) := by decide +kernel
theorem dX11_chance_135 : decode cX11_chance 135 = .ok (.iconst 0, 1) := by decide +kernel
theorem dX11_chance_136 : decode cX11_chance 136 = .ok (.iaload, 1) := by decide +kernel
theorem dX11_chance_137 : decode cX11_chance 137 = .ok (.i2l, 1) := by decide +kernel
theorem dX11_chance_138 : decode cX11_chance 138 = .ok (.lmul, 1) := by decide +kernel
theorem dX11_chance_139 : decode cX11_chance 139 = .ok (.lstore 12, 2) := by decide +kernel
theorem dX11_chance_141 : decode cX11_chance 141 = .ok (.lload 12, 2) := by decide +kernel
theorem dX11_chance_143 : decode cX11_chance 143 = .ok (.lload 10, 2) := by decide +kernel
theorem dX11_chance_145 : decode cX11_chance 145 = .ok (.lcmp, 1) := by decide +kernel
theorem dX11_chance_146 : decode cX11_chance 146 = .ok (.ifCond .le 12, 3) := by decide +kernel
theorem dX11_chance_149 : decode cX11_chance 149 = .ok (.aload_n 0, 1) := by decide +kernel
theorem dX11_chance_150 : decode cX11_chance 150 = .ok (.lconst 1, 1) := by decide +kernel
theorem dX11_chance_151 : decode cX11_chance 151 = .ok (.lconst 1, 1) := by decide +kernel
theorem dX11_chance_152 : decode cX11_chance 152 = .ok (.invokevirtual 163, 3) := by decide +kernel
theorem dX11_chance_155 : decode cX11_chance 155 = .ok (.goto 11, 3) := by decide +kernel
theorem dX11_chance_158 : decode cX11_chance 158 = .ok (.aload_n 0, 1) := by decide +kernel
theorem dX11_chance_159 : decode cX11_chance 159 = .ok (.lload 12, 2) := by decide +kernel
theorem dX11_chance_161 : decode cX11_chance 161 = .ok (.lload 10, 2) := by decide +kernel
theorem dX11_chance_163 : decode cX11_chance 163 = .ok (.invokevirtual 163, 3) := by decide +kernel
theorem dX11_chance_166 : decode cX11_chance 166 = .ok (.ireturn, 1) := by decide +kernel
theorem dX11_runOf_0 : decode cX11_runOf 0 = .ok (.iconst 0, 1) := by decide +kernel
theorem dX11_runOf_1 : decode cX11_runOf 1 = .ok (.istore_n 3, 1) := by decide +kernel
theorem dX11_runOf_2 : decode cX11_runOf 2 = .ok (.iconst 0, 1) := by decide +kernel
theorem dX11_runOf_3 : decode cX11_runOf 3 = .ok (.istore 4, 2) := by decide +kernel
theorem dX11_runOf_5 : decode cX11_runOf 5 = .ok (.iload 4, 2) := by decide +kernel
theorem dX11_runOf_7 : decode cX11_runOf 7 = .ok (.aload_n 0, 1) := by decide +kernel
theorem dX11_runOf_8 : decode cX11_runOf 8 = .ok (.getfield 43, 3) := by decide +kernel
theorem dX11_runOf_11 : decode cX11_runOf 11 = .ok (.iload_n 1, 1) := by decide +kernel
theorem dX11_runOf_12 : decode cX11_runOf 12 = .ok (.iaload, 1) := by decide +kernel
theorem dX11_runOf_13 : decode cX11_runOf 13 = .ok (.if_icmp .ge 112, 3) := by decide +kernel
theorem dX11_runOf_16 : decode cX11_runOf 16 = .ok (.iconst 0, 1) := by decide +kernel
theorem dX11_runOf_17 : decode cX11_runOf 17 = .ok (.istore 5, 2) := by decide +kernel
theorem dX11_runOf_19 : decode cX11_runOf 19 = .ok (.iload 5, 2) := by decide +kernel
theorem dX11_runOf_21 : decode cX11_runOf 21 = .ok (.aload_n 0, 1) := by decide +kernel
theorem dX11_runOf_22 : decode cX11_runOf 22 = .ok (.getfield 43, 3) := by decide +kernel
theorem dX11_runOf_25 : decode cX11_runOf 25 = .ok (.iload_n 2, 1) := by decide +kernel
theorem dX11_runOf_26 : decode cX11_runOf 26 = .ok (.iaload, 1) := by decide +kernel
theorem dX11_runOf_27 : decode cX11_runOf 27 = .ok (.if_icmp .ge 92, 3) := by decide +kernel
theorem dX11_runOf_30 : decode cX11_runOf 30 = .ok (.iconst 0, 1) := by decide +kernel
theorem dX11_runOf_31 : decode cX11_runOf 31 = .ok (.istore 6, 2) := by decide +kernel
theorem dX11_runOf_33 : decode cX11_runOf 33 = .ok (.iload 4, 2) := by decide +kernel
theorem dX11_runOf_35 : decode cX11_runOf 35 = .ok (.iload 6, 2) := by decide +kernel
theorem dX11_runOf_37 : decode cX11_runOf 37 = .ok (.iadd, 1) := by decide +kernel
theorem dX11_runOf_38 : decode cX11_runOf 38 = .ok (.aload_n 0, 1) := by decide +kernel
theorem dX11_runOf_39 : decode cX11_runOf 39 = .ok (.getfield 43, 3) := by decide +kernel
theorem dX11_runOf_42 : decode cX11_runOf 42 = .ok (.iload_n 1, 1) := by decide +kernel
theorem dX11_runOf_43 : decode cX11_runOf 43 = .ok (.iaload, 1) := by decide +kernel
theorem dX11_runOf_44 : decode cX11_runOf 44 = .ok (.if_icmp .ge 56, 3) := by decide +kernel
theorem dX11_runOf_47 : decode cX11_runOf 47 = .ok (.iload 5, 2) := by decide +kernel
theorem dX11_runOf_49 : decode cX11_runOf 49 = .ok (.iload 6, 2) := by decide +kernel
theorem dX11_runOf_51 : decode cX11_runOf 51 = .ok (.iadd, 1) := by decide +kernel
theorem dX11_runOf_52 : decode cX11_runOf 52 = .ok (.aload_n 0, 1) := by decide +kernel
theorem dX11_runOf_53 : decode cX11_runOf 53 = .ok (.getfield 43, 3) := by decide +kernel
theorem dX11_runOf_56 : decode cX11_runOf 56 = .ok (.iload_n 2, 1) := by decide +kernel
theorem dX11_runOf_57 : decode cX11_runOf 57 = .ok (.iaload, 1) := by decide +kernel
theorem dX11_runOf_58 : decode cX11_runOf 58 = .ok (.if_icmp .ge 42, 3) := by decide +kernel
theorem dX11_runOf_61 : decode cX11_runOf 61 = .ok (.aload_n 0, 1) := by decide +kernel
theorem dX11_runOf_62 : decode cX11_runOf 62 = .ok (.getfield 46, 3) := by decide +kernel
theorem dX11_runOf_65 : decode cX11_runOf 65 = .ok (.bipush 8, 2) := by decide +kernel
theorem dX11_runOf_67 : decode cX11_runOf 67 = .ok (.iload_n 1, 1) := by decide +kernel
theorem dX11_runOf_68 : decode cX11_runOf 68 = .ok (.imul, 1) := by decide +kernel
theorem dX11_runOf_69 : decode cX11_runOf 69 = .ok (.iload 4, 2) := by decide +kernel
theorem dX11_runOf_71 : decode cX11_runOf 71 = .ok (.iadd, 1) := by decide +kernel
theorem dX11_runOf_72 : decode cX11_runOf 72 = .ok (.iload 6, 2) := by decide +kernel
theorem dX11_runOf_74 : decode cX11_runOf 74 = .ok (.iadd, 1) := by decide +kernel
theorem dX11_runOf_75 : decode cX11_runOf 75 = .ok (.iaload, 1) := by decide +kernel
theorem dX11_runOf_76 : decode cX11_runOf 76 = .ok (.aload_n 0, 1) := by decide +kernel
theorem dX11_runOf_77 : decode cX11_runOf 77 = .ok (.getfield 46, 3) := by decide +kernel
theorem dX11_runOf_80 : decode cX11_runOf 80 = .ok (.bipush 8, 2) := by decide +kernel
theorem dX11_runOf_82 : decode cX11_runOf 82 = .ok (.iload_n 2, 1) := by decide +kernel
theorem dX11_runOf_83 : decode cX11_runOf 83 = .ok (.imul, 1) := by decide +kernel
theorem dX11_runOf_84 : decode cX11_runOf 84 = .ok (.iload 5, 2) := by decide +kernel
theorem dX11_runOf_86 : decode cX11_runOf 86 = .ok (.iadd, 1) := by decide +kernel
theorem dX11_runOf_87 : decode cX11_runOf 87 = .ok (.iload 6, 2) := by decide +kernel
theorem dX11_runOf_89 : decode cX11_runOf 89 = .ok (.iadd, 1) := by decide +kernel
theorem dX11_runOf_90 : decode cX11_runOf 90 = .ok (.iaload, 1) := by decide +kernel
theorem dX11_runOf_91 : decode cX11_runOf 91 = .ok (.if_icmp .ne 9, 3) := by decide +kernel
theorem dX11_runOf_94 : decode cX11_runOf 94 = .ok (.iinc 6 1, 3) := by decide +kernel
theorem dX11_runOf_97 : decode cX11_runOf 97 = .ok (.goto (-64), 3) := by decide +kernel
theorem dX11_runOf_100 : decode cX11_runOf 100 = .ok (.iload 6, 2) := by decide +kernel
theorem dX11_runOf_102 : decode cX11_runOf 102 = .ok (.iload_n 3, 1) := by decide +kernel
theorem dX11_runOf_103 : decode cX11_runOf 103 = .ok (.if_icmp .le 8, 3) := by decide +kernel
theorem dX11_runOf_106 : decode cX11_runOf 106 = .ok (.iload 6, 2) := by decide +kernel
theorem dX11_runOf_108 : decode cX11_runOf 108 = .ok (.goto 4, 3) := by decide +kernel
theorem dX11_runOf_111 : decode cX11_runOf 111 = .ok (.iload_n 3, 1) := by decide +kernel
theorem dX11_runOf_112 : decode cX11_runOf 112 = .ok (.istore_n 3, 1) := by decide +kernel
theorem dX11_runOf_113 : decode cX11_runOf 113 = .ok (.iinc 5 1, 3) := by decide +kernel
theorem dX11_runOf_116 : decode cX11_runOf 116 = .ok (.goto (-97), 3) := by decide +kernel
theorem dX11_runOf_119 : decode cX11_runOf 119 = .ok (.iinc 4 1, 3) := by decide +kernel
theorem dX11_runOf_122 : decode cX11_runOf 122 = .ok (.goto (-117), 3) := by decide +kernel
theorem dX11_runOf_125 : decode cX11_runOf 125 = .ok (.iload_n 3, 1) := by decide +kernel
theorem dX11_runOf_126 : decode cX11_runOf 126 = .ok (.ireturn, 1) := by decide +kernel
theorem dX11_greater_0 : decode cX11_greater 0 = .ok (.iload_n 0, 1) := by decide +kernel
theorem dX11_greater_1 : decode cX11_greater 1 = .ok (.iload_n 1, 1) := by decide +kernel
theorem dX11_greater_2 : decode cX11_greater 2 = .ok (.if_icmp .le 7, 3) := by decide +kernel
theorem dX11_greater_5 : decode cX11_greater 5 = .ok (.iload_n 0, 1) := by decide +kernel
theorem dX11_greater_6 : decode cX11_greater 6 = .ok (.goto 4, 3) := by decide +kernel
theorem dX11_greater_9 : decode cX11_greater 9 = .ok (.iload_n 1, 1) := by decide +kernel
theorem dX11_greater_10 : decode cX11_greater 10 = .ok (.ireturn, 1) := by decide +kernel
theorem dX11_likeOf_0 : decode cX11_likeOf 0 = .ok (.iconst 0, 1) := by decide +kernel
theorem dX11_likeOf_1 : decode cX11_likeOf 1 = .ok (.istore_n 3, 1) := by decide +kernel
theorem dX11_likeOf_2 : decode cX11_likeOf 2 = .ok (.iload_n 3, 1) := by decide +kernel
theorem dX11_likeOf_3 : decode cX11_likeOf 3 = .ok (.aload_n 0, 1) := by decide +kernel
theorem dX11_likeOf_4 : decode cX11_likeOf 4 = .ok (.getfield 43, 3) := by decide +kernel
theorem dX11_likeOf_7 : decode cX11_likeOf 7 = .ok (.iload_n 1, 1) := by decide +kernel
theorem dX11_likeOf_8 : decode cX11_likeOf 8 = .ok (.iaload, 1) := by decide +kernel
theorem dX11_likeOf_9 : decode cX11_likeOf 9 = .ok (.if_icmp .gt 151, 3) := by decide +kernel
theorem dX11_likeOf_12 : decode cX11_likeOf 12 = .ok (.iconst 0, 1) := by decide +kernel
theorem dX11_likeOf_13 : decode cX11_likeOf 13 = .ok (.istore 4, 2) := by decide +kernel
theorem dX11_likeOf_15 : decode cX11_likeOf 15 = .ok (.iload 4, 2) := by decide +kernel
theorem dX11_likeOf_17 : decode cX11_likeOf 17 = .ok (.aload_n 0, 1) := by decide +kernel
theorem dX11_likeOf_18 : decode cX11_likeOf 18 = .ok (.getfield 43, 3) := by decide +kernel
theorem dX11_likeOf_21 : decode cX11_likeOf 21 = .ok (.iload_n 2, 1) := by decide +kernel
theorem dX11_likeOf_22 : decode cX11_likeOf 22 = .ok (.iaload, 1) := by decide +kernel
theorem dX11_likeOf_23 : decode cX11_likeOf 23 = .ok (.if_icmp .gt 131, 3) := by decide +kernel
theorem dX11_likeOf_26 : decode cX11_likeOf 26 = .ok (.iconst 0, 1) := by decide +kernel
theorem dX11_likeOf_27 : decode cX11_likeOf 27 = .ok (.istore 5, 2) := by decide +kernel
theorem dX11_likeOf_29 : decode cX11_likeOf 29 = .ok (.iload_n 3, 1) := by decide +kernel
theorem dX11_likeOf_30 : decode cX11_likeOf 30 = .ok (.ifCond .le 104, 3) := by decide +kernel
theorem dX11_likeOf_33 : decode cX11_likeOf 33 = .ok (.iload 4, 2) := by decide +kernel
theorem dX11_likeOf_35 : decode cX11_likeOf 35 = .ok (.ifCond .le 99, 3) := by decide +kernel
theorem dX11_likeOf_38 : decode cX11_likeOf 38 = .ok (.aload_n 0, 1) := by decide +kernel
theorem dX11_likeOf_39 : decode cX11_likeOf 39 = .ok (.getfield 46, 3) := by decide +kernel
theorem dX11_likeOf_42 : decode cX11_likeOf 42 = .ok (.bipush 8, 2) := by decide +kernel
theorem dX11_likeOf_44 : decode cX11_likeOf 44 = .ok (.iload_n 1, 1) := by decide +kernel
theorem dX11_likeOf_45 : decode cX11_likeOf 45 = .ok (.imul, 1) := by decide +kernel
theorem dX11_likeOf_46 : decode cX11_likeOf 46 = .ok (.iload_n 3, 1) := by decide +kernel
theorem dX11_likeOf_47 : decode cX11_likeOf 47 = .ok (.iadd, 1) := by decide +kernel
theorem dX11_likeOf_48 : decode cX11_likeOf 48 = .ok (.iconst 1, 1) := by decide +kernel
theorem dX11_likeOf_49 : decode cX11_likeOf 49 = .ok (.isub, 1) := by decide +kernel
theorem dX11_likeOf_50 : decode cX11_likeOf 50 = .ok (.iaload, 1) := by decide +kernel
theorem dX11_likeOf_51 : decode cX11_likeOf 51 = .ok (.aload_n 0, 1) := by decide +kernel
theorem dX11_likeOf_52 : decode cX11_likeOf 52 = .ok (.getfield 46, 3) := by decide +kernel
theorem dX11_likeOf_55 : decode cX11_likeOf 55 = .ok (.bipush 8, 2) := by decide +kernel
theorem dX11_likeOf_57 : decode cX11_likeOf 57 = .ok (.iload_n 2, 1) := by decide +kernel
theorem dX11_likeOf_58 : decode cX11_likeOf 58 = .ok (.imul, 1) := by decide +kernel
theorem dX11_likeOf_59 : decode cX11_likeOf 59 = .ok (.iload 4, 2) := by decide +kernel
theorem dX11_likeOf_61 : decode cX11_likeOf 61 = .ok (.iadd, 1) := by decide +kernel
theorem dX11_likeOf_62 : decode cX11_likeOf 62 = .ok (.iconst 1, 1) := by decide +kernel
theorem dX11_likeOf_63 : decode cX11_likeOf 63 = .ok (.isub, 1) := by decide +kernel
theorem dX11_likeOf_64 : decode cX11_likeOf 64 = .ok (.iaload, 1) := by decide +kernel
theorem dX11_likeOf_65 : decode cX11_likeOf 65 = .ok (.if_icmp .ne 7, 3) := by decide +kernel
theorem dX11_likeOf_68 : decode cX11_likeOf 68 = .ok (.iconst 1, 1) := by decide +kernel
theorem dX11_likeOf_69 : decode cX11_likeOf 69 = .ok (.goto 4, 3) := by decide +kernel
theorem dX11_likeOf_72 : decode cX11_likeOf 72 = .ok (.iconst 0, 1) := by decide +kernel
theorem dX11_likeOf_73 : decode cX11_likeOf 73 = .ok (.istore 6, 2) := by decide +kernel
theorem dX11_likeOf_75 : decode cX11_likeOf 75 = .ok (.iload 6, 2) := by decide +kernel
theorem dX11_likeOf_77 : decode cX11_likeOf 77 = .ok (.ifCond .eq 23, 3) := by decide +kernel
theorem dX11_likeOf_80 : decode cX11_likeOf 80 = .ok (.aload_n 0, 1) := by decide +kernel
theorem dX11_likeOf_81 : decode cX11_likeOf 81 = .ok (.getfield 52, 3) := by decide +kernel
theorem dX11_likeOf_84 : decode cX11_likeOf 84 = .ok (.bipush 9, 2) := by decide +kernel
theorem dX11_likeOf_86 : decode cX11_likeOf 86 = .ok (.iload_n 3, 1) := by decide +kernel
theorem dX11_likeOf_87 : decode cX11_likeOf 87 = .ok (.imul, 1) := by decide +kernel
theorem dX11_likeOf_88 : decode cX11_likeOf 88 = .ok (.iload 4, 2) := by decide +kernel
theorem dX11_likeOf_90 : decode cX11_likeOf 90 = .ok (.iadd, 1) := by decide +kernel
theorem dX11_likeOf_91 : decode cX11_likeOf 91 = .ok (.bipush 10, 2) := by decide +kernel
theorem dX11_likeOf_93 : decode cX11_likeOf 93 = .ok (.isub, 1) := by decide +kernel
theorem dX11_likeOf_94 : decode cX11_likeOf 94 = .ok (.iaload, 1) := by decide +kernel
theorem dX11_likeOf_95 : decode cX11_likeOf 95 = .ok (.iconst 1, 1) := by decide +kernel
theorem dX11_likeOf_96 : decode cX11_likeOf 96 = .ok (.iadd, 1) := by decide +kernel
theorem dX11_likeOf_97 : decode cX11_likeOf 97 = .ok (.goto 35, 3) := by decide +kernel
theorem dX11_likeOf_100 : decode cX11_likeOf 100 = .ok (.aload_n 0, 1) := by decide +kernel
theorem dX11_likeOf_101 : decode cX11_likeOf 101 = .ok (.getfield 52, 3) := by decide +kernel
theorem dX11_likeOf_104 : decode cX11_likeOf 104 = .ok (.bipush 9, 2) := by decide +kernel
theorem dX11_likeOf_106 : decode cX11_likeOf 106 = .ok (.iload_n 3, 1) := by decide +kernel
theorem dX11_likeOf_107 : decode cX11_likeOf 107 = .ok (.imul, 1) := by decide +kernel
theorem dX11_likeOf_108 : decode cX11_likeOf 108 = .ok (.iload 4, 2) := by decide +kernel
theorem dX11_likeOf_110 : decode cX11_likeOf 110 = .ok (.iadd, 1) := by decide +kernel
theorem dX11_likeOf_111 : decode cX11_likeOf 111 = .ok (.bipush 9, 2) := by decide +kernel
theorem dX11_likeOf_113 : decode cX11_likeOf 113 = .ok (.isub, 1) := by decide +kernel
theorem dX11_likeOf_114 : decode cX11_likeOf 114 = .ok (.iaload, 1) := by decide +kernel
theorem dX11_likeOf_115 : decode cX11_likeOf 115 = .ok (.aload_n 0, 1) := by decide +kernel
theorem dX11_likeOf_116 : decode cX11_likeOf 116 = .ok (.getfield 52, 3) := by decide +kernel
theorem dX11_likeOf_119 : decode cX11_likeOf 119 = .ok (.bipush 9, 2) := by decide +kernel
theorem dX11_likeOf_121 : decode cX11_likeOf 121 = .ok (.iload_n 3, 1) := by decide +kernel
theorem dX11_likeOf_122 : decode cX11_likeOf 122 = .ok (.imul, 1) := by decide +kernel
theorem dX11_likeOf_123 : decode cX11_likeOf 123 = .ok (.iload 4, 2) := by decide +kernel
theorem dX11_likeOf_125 : decode cX11_likeOf 125 = .ok (.iadd, 1) := by decide +kernel
theorem dX11_likeOf_126 : decode cX11_likeOf 126 = .ok (.iconst 1, 1) := by decide +kernel
theorem dX11_likeOf_127 : decode cX11_likeOf 127 = .ok (.isub, 1) := by decide +kernel
theorem dX11_likeOf_128 : decode cX11_likeOf 128 = .ok (.iaload, 1) := by decide +kernel
theorem dX11_likeOf_129 : decode cX11_likeOf 129 = .ok (.invokestatic 202, 3) := by decide +kernel
theorem dX11_likeOf_132 : decode cX11_likeOf 132 = .ok (.istore 5, 2) := by decide +kernel
theorem dX11_likeOf_134 : decode cX11_likeOf 134 = .ok (.aload_n 0, 1) := by decide +kernel
theorem dX11_likeOf_135 : decode cX11_likeOf 135 = .ok (.getfield 52, 3) := by decide +kernel
theorem dX11_likeOf_138 : decode cX11_likeOf 138 = .ok (.bipush 9, 2) := by decide +kernel
theorem dX11_likeOf_140 : decode cX11_likeOf 140 = .ok (.iload_n 3, 1) := by decide +kernel
theorem dX11_likeOf_141 : decode cX11_likeOf 141 = .ok (.imul, 1) := by decide +kernel
theorem dX11_likeOf_142 : decode cX11_likeOf 142 = .ok (.iload 4, 2) := by decide +kernel
theorem dX11_likeOf_144 : decode cX11_likeOf 144 = .ok (.iadd, 1) := by decide +kernel
theorem dX11_likeOf_145 : decode cX11_likeOf 145 = .ok (.iload 5, 2) := by decide +kernel
theorem dX11_likeOf_147 : decode cX11_likeOf 147 = .ok (.iastore, 1) := by decide +kernel
theorem dX11_likeOf_148 : decode cX11_likeOf 148 = .ok (.iinc 4 1, 3) := by decide +kernel
theorem dX11_likeOf_151 : decode cX11_likeOf 151 = .ok (.goto (-136), 3) := by decide +kernel
theorem dX11_likeOf_154 : decode cX11_likeOf 154 = .ok (.iinc 3 1, 3) := by decide +kernel
theorem dX11_likeOf_157 : decode cX11_likeOf 157 = .ok (.goto (-155), 3) := by decide +kernel
theorem dX11_likeOf_160 : decode cX11_likeOf 160 = .ok (.aload_n 0, 1) := by decide +kernel
theorem dX11_likeOf_161 : decode cX11_likeOf 161 = .ok (.getfield 52, 3) := by decide +kernel
theorem dX11_likeOf_164 : decode cX11_likeOf 164 = .ok (.bipush 9, 2) := by decide +kernel
theorem dX11_likeOf_166 : decode cX11_likeOf 166 = .ok (.aload_n 0, 1) := by decide +kernel
theorem dX11_likeOf_167 : decode cX11_likeOf 167 = .ok (.getfield 43, 3) := by decide +kernel
theorem dX11_likeOf_170 : decode cX11_likeOf 170 = .ok (.iload_n 1, 1) := by decide +kernel
theorem dX11_likeOf_171 : decode cX11_likeOf 171 = .ok (.iaload, 1) := by decide +kernel
theorem dX11_likeOf_172 : decode cX11_likeOf 172 = .ok (.imul, 1) := by decide +kernel
theorem dX11_likeOf_173 : decode cX11_likeOf 173 = .ok (.aload_n 0, 1) := by decide +kernel
theorem dX11_likeOf_174 : decode cX11_likeOf 174 = .ok (.getfield 43, 3) := by decide +kernel
theorem dX11_likeOf_177 : decode cX11_likeOf 177 = .ok (.iload_n 2, 1) := by decide +kernel
theorem dX11_likeOf_178 : decode cX11_likeOf 178 = .ok (.iaload, 1) := by decide +kernel
theorem dX11_likeOf_179 : decode cX11_likeOf 179 = .ok (.iadd, 1) := by decide +kernel
theorem dX11_likeOf_180 : decode cX11_likeOf 180 = .ok (.iaload, 1) := by decide +kernel
theorem dX11_likeOf_181 : decode cX11_likeOf 181 = .ok (.ireturn, 1) := by decide +kernel
theorem dX11_like_0 : decode cX11_like 0 = .ok (.aload_n 0, 1) := by decide +kernel
theorem dX11_like_1 : decode cX11_like 1 = .ok (.iconst 3, 1) := by decide +kernel
theorem dX11_like_2 : decode cX11_like 2 = .ok (.iload_n 1, 1) := by decide +kernel
theorem dX11_like_3 : decode cX11_like 3 = .ok (.invokevirtual 136, 3) := by decide +kernel
theorem dX11_like_6 : decode cX11_like 6 = .ok (.ifCond .eq 27, 3) := by decide +kernel
theorem dX11_like_9 : decode cX11_like 9 = .ok (.aload_n 0, 1) := by decide +kernel
theorem dX11_like_10 : decode cX11_like 10 = .ok (.iconst 3, 1) := by decide +kernel
theorem dX11_like_11 : decode cX11_like 11 = .ok (.iload_n 2, 1) := by decide +kernel
theorem dX11_like_12 : decode cX11_like 12 = .ok (.invokevirtual 136, 3) := by decide +kernel
theorem dX11_like_15 : decode cX11_like 15 = .ok (.ifCond .eq 18, 3) := by decide +kernel
theorem dX11_like_18 : decode cX11_like 18 = .ok (.iload_n 1, 1) := by decide +kernel
theorem dX11_like_19 : decode cX11_like 19 = .ok (.iload_n 2, 1) := by decide +kernel
theorem dX11_like_20 : decode cX11_like 20 = .ok (.if_icmp .eq 13, 3) := by decide +kernel
theorem dX11_like_23 : decode cX11_like 23 = .ok (.iload_n 3, 1) := by decide +kernel
theorem dX11_like_24 : decode cX11_like 24 = .ok (.i2l, 1) := by decide +kernel
theorem dX11_like_25 : decode cX11_like 25 = .ok (.lconst 0, 1) := by decide +kernel
theorem dX11_like_26 : decode cX11_like 26 = .ok (.lconst 1, 1) := by decide +kernel
theorem dX11_like_27 : decode cX11_like 27 = .ok (.invokestatic 120, 3) := by decide +kernel
theorem dX11_like_30 : decode cX11_like 30 = .ok (.ifCond .ne 6, 3) := by decide +kernel
theorem dX11_like_33 : decode cX11_like 33 = .ok (.bipush (-2), 2) := by decide +kernel
theorem dX11_like_35 : decode cX11_like 35 = .ok (.ireturn, 1) := by decide +kernel
theorem dX11_like_36 : decode cX11_like 36 = .ok (.iload_n 3, 1) := by decide +kernel
theorem dX11_like_37 : decode cX11_like 37 = .ok (.ifCond .ne 12, 3) := by decide +kernel
theorem dX11_like_40 : decode cX11_like 40 = .ok (.aload_n 0, 1) := by decide +kernel
theorem dX11_like_41 : decode cX11_like 41 = .ok (.iload_n 1, 1) := by decide +kernel
theorem dX11_like_42 : decode cX11_like 42 = .ok (.iload_n 2, 1) := by decide +kernel
theorem dX11_like_43 : decode cX11_like 43 = .ok (.invokevirtual 205, 3) := by decide +kernel
theorem dX11_like_46 : decode cX11_like 46 = .ok (.goto 9, 3) := by decide +kernel
theorem dX11_like_49 : decode cX11_like 49 = .ok (.aload_n 0, 1) := by decide +kernel
theorem dX11_like_50 : decode cX11_like 50 = .ok (.iload_n 1, 1) := by decide +kernel
theorem dX11_like_51 : decode cX11_like 51 = .ok (.iload_n 2, 1) := by decide +kernel
theorem dX11_like_52 : decode cX11_like 52 = .ok (.invokevirtual 208, 3) := by decide +kernel
theorem dX11_like_55 : decode cX11_like 55 = .ok (.ireturn, 1) := by decide +kernel
theorem dX11_left_0 : decode cX11_left 0 = .ok (.aload_n 0, 1) := by decide +kernel
theorem dX11_left_1 : decode cX11_left 1 = .ok (.iconst 3, 1) := by decide +kernel
theorem dX11_left_2 : decode cX11_left 2 = .ok (.iload_n 1, 1) := by decide +kernel
theorem dX11_left_3 : decode cX11_left 3 = .ok (.invokevirtual 136, 3) := by decide +kernel
theorem dX11_left_6 : decode cX11_left 6 = .ok (.ifCond .eq 15, 3) := by decide +kernel
theorem dX11_left_9 : decode cX11_left 9 = .ok (.iload_n 2, 1) := by decide +kernel
theorem dX11_left_10 : decode cX11_left 10 = .ok (.i2l, 1) := by decide +kernel
theorem dX11_left_11 : decode cX11_left 11 = .ok (.lconst 1, 1) := by decide +kernel
theorem dX11_left_12 : decode cX11_left 12 = .ok (.ldc2_w 211, 3) := by decide +kernel
theorem dX11_left_15 : decode cX11_left 15 = .ok (.invokestatic 120, 3) := by decide +kernel
theorem dX11_left_18 : decode cX11_left 18 = .ok (.ifCond .ne 6, 3) := by decide +kernel
theorem dX11_left_21 : decode cX11_left 21 = .ok (.bipush (-2), 2) := by decide +kernel
theorem dX11_left_23 : decode cX11_left 23 = .ok (.ireturn, 1) := by decide +kernel
theorem dX11_left_24 : decode cX11_left 24 = .ok (.iconst (-1), 1) := by decide +kernel
theorem dX11_left_25 : decode cX11_left 25 = .ok (.istore_n 3, 1) := by decide +kernel
theorem dX11_left_26 : decode cX11_left 26 = .ok (.iload_n 2, 1) := by decide +kernel
theorem dX11_left_27 : decode cX11_left 27 = .ok (.iconst 1, 1) := by decide +kernel
theorem dX11_left_28 : decode cX11_left 28 = .ok (.isub, 1) := by decide +kernel
theorem dX11_left_29 : decode cX11_left 29 = .ok (.istore 4, 2) := by decide +kernel
theorem dX11_left_31 : decode cX11_left 31 = .ok (.iconst 0, 1) := by decide +kernel
theorem dX11_left_32 : decode cX11_left 32 = .ok (.istore 5, 2) := by decide +kernel
theorem dX11_left_34 : decode cX11_left 34 = .ok (.iload 5, 2) := by decide +kernel
theorem dX11_left_36 : decode cX11_left 36 = .ok (.aload_n 0, 1) := by decide +kernel
theorem dX11_left_37 : decode cX11_left 37 = .ok (.getfield 16, 3) := by decide +kernel
theorem dX11_left_40 : decode cX11_left 40 = .ok (.iconst 3, 1) := by decide +kernel
theorem dX11_left_41 : decode cX11_left 41 = .ok (.iaload, 1) := by decide +kernel
theorem dX11_left_42 : decode cX11_left 42 = .ok (.if_icmp .ge 65, 3) := by decide +kernel
theorem dX11_left_45 : decode cX11_left 45 = .ok (.aload_n 0, 1) := by decide +kernel
theorem dX11_left_46 : decode cX11_left 46 = .ok (.getfield 34, 3) := by decide +kernel
theorem dX11_left_49 : decode cX11_left 49 = .ok (.iload 5, 2) := by decide +kernel
theorem dX11_left_51 : decode cX11_left 51 = .ok (.iaload, 1) := by decide +kernel
theorem dX11_left_52 : decode cX11_left 52 = .ok (.aload_n 0, 1) := by decide +kernel
theorem dX11_left_53 : decode cX11_left 53 = .ok (.getfield 34, 3) := by decide +kernel
theorem dX11_left_56 : decode cX11_left 56 = .ok (.iload_n 1, 1) := by decide +kernel
theorem dX11_left_57 : decode cX11_left 57 = .ok (.iaload, 1) := by decide +kernel
theorem dX11_left_58 : decode cX11_left 58 = .ok (.if_icmp .ne 43, 3) := by decide +kernel
theorem dX11_left_61 : decode cX11_left 61 = .ok (.aload_n 0, 1) := by decide +kernel
theorem dX11_left_62 : decode cX11_left 62 = .ok (.getfield 40, 3) := by decide +kernel
theorem dX11_left_65 : decode cX11_left 65 = .ok (.iload 5, 2) := by decide +kernel
theorem dX11_left_67 : decode cX11_left 67 = .ok (.iaload, 1) := by decide +kernel
theorem dX11_left_68 : decode cX11_left 68 = .ok (.aload_n 0, 1) := by decide +kernel
theorem dX11_left_69 : decode cX11_left 69 = .ok (.getfield 40, 3) := by decide +kernel
theorem dX11_left_72 : decode cX11_left 72 = .ok (.iload_n 1, 1) := by decide +kernel
theorem dX11_left_73 : decode cX11_left 73 = .ok (.iaload, 1) := by decide +kernel
theorem dX11_left_74 : decode cX11_left 74 = .ok (.if_icmp .ge 27, 3) := by decide +kernel
theorem dX11_left_77 : decode cX11_left 77 = .ok (.aload_n 0, 1) := by decide +kernel
theorem dX11_left_78 : decode cX11_left 78 = .ok (.iload_n 1, 1) := by decide +kernel
theorem dX11_left_79 : decode cX11_left 79 = .ok (.iload 5, 2) := by decide +kernel
theorem dX11_left_81 : decode cX11_left 81 = .ok (.invokevirtual 205, 3) := by decide +kernel
theorem dX11_left_84 : decode cX11_left 84 = .ok (.iload 4, 2) := by decide +kernel
theorem dX11_left_86 : decode cX11_left 86 = .ok (.if_icmp .le 15, 3) := by decide +kernel
theorem dX11_left_89 : decode cX11_left 89 = .ok (.iload 5, 2) := by decide +kernel
theorem dX11_left_91 : decode cX11_left 91 = .ok (.istore_n 3, 1) := by decide +kernel
theorem dX11_left_92 : decode cX11_left 92 = .ok (.aload_n 0, 1) := by decide +kernel
theorem dX11_left_93 : decode cX11_left 93 = .ok (.iload_n 1, 1) := by decide +kernel
theorem dX11_left_94 : decode cX11_left 94 = .ok (.iload 5, 2) := by decide +kernel
theorem dX11_left_96 : decode cX11_left 96 = .ok (.invokevirtual 205, 3) := by decide +kernel
theorem dX11_left_99 : decode cX11_left 99 = .ok (.istore 4, 2) := by decide +kernel
theorem dX11_left_101 : decode cX11_left 101 = .ok (.iinc 5 1, 3) := by decide +kernel
theorem dX11_left_104 : decode cX11_left 104 = .ok (.goto (-70), 3) := by decide +kernel
theorem dX11_left_107 : decode cX11_left 107 = .ok (.iload_n 3, 1) := by decide +kernel
theorem dX11_left_108 : decode cX11_left 108 = .ok (.ireturn, 1) := by decide +kernel
theorem dX11_slip_0 : decode cX11_slip 0 = .ok (.aload_n 0, 1) := by decide +kernel
theorem dX11_slip_1 : decode cX11_slip 1 = .ok (.iconst 3, 1) := by decide +kernel
theorem dX11_slip_2 : decode cX11_slip 2 = .ok (.iload_n 1, 1) := by decide +kernel
theorem dX11_slip_3 : decode cX11_slip 3 = .ok (.invokevirtual 136, 3) := by decide +kernel
theorem dX11_slip_6 : decode cX11_slip 6 = .ok (.ifCond .ne 6, 3) := by decide +kernel
theorem dX11_slip_9 : decode cX11_slip 9 = .ok (.bipush (-2), 2) := by decide +kernel
theorem dX11_slip_11 : decode cX11_slip 11 = .ok (.ireturn, 1) := by decide +kernel
theorem dX11_slip_12 : decode cX11_slip 12 = .ok (.iconst 0, 1) := by decide +kernel
theorem dX11_slip_13 : decode cX11_slip 13 = .ok (.istore_n 2, 1) := by decide +kernel
theorem dX11_slip_14 : decode cX11_slip 14 = .ok (.iload_n 2, 1) := by decide +kernel
theorem dX11_slip_15 : decode cX11_slip 15 = .ok (.aload_n 0, 1) := by decide +kernel
theorem dX11_slip_16 : decode cX11_slip 16 = .ok (.getfield 43, 3) := by decide +kernel
theorem dX11_slip_19 : decode cX11_slip 19 = .ok (.iload_n 1, 1) := by decide +kernel
theorem dX11_slip_20 : decode cX11_slip 20 = .ok (.iaload, 1) := by decide +kernel
theorem dX11_slip_21 : decode cX11_slip 21 = .ok (.if_icmp .ge 62, 3) := by decide +kernel
theorem dX11_slip_24 : decode cX11_slip 24 = .ok (.aload_n 0, 1) := by decide +kernel
theorem dX11_slip_25 : decode cX11_slip 25 = .ok (.getfield 22, 3) := by decide +kernel
theorem dX11_slip_28 : decode cX11_slip 28 = .ok (.aload_n 0, 1) := by decide +kernel
theorem dX11_slip_29 : decode cX11_slip 29 = .ok (.getfield 46, 3) := by decide +kernel
theorem dX11_slip_32 : decode cX11_slip 32 = .ok (.bipush 8, 2) := by decide +kernel
theorem dX11_slip_34 : decode cX11_slip 34 = .ok (.iload_n 1, 1) := by decide +kernel
theorem dX11_slip_35 : decode cX11_slip 35 = .ok (.imul, 1) := by decide +kernel
theorem dX11_slip_36 : decode cX11_slip 36 = .ok (.iload_n 2, 1) := by decide +kernel
theorem dX11_slip_37 : decode cX11_slip 37 = .ok (.iadd, 1) := by decide +kernel
theorem dX11_slip_38 : decode cX11_slip 38 = .ok (.iaload, 1) := by decide +kernel
theorem dX11_slip_39 : decode cX11_slip 39 = .ok (.iaload, 1) := by decide +kernel
theorem dX11_slip_40 : decode cX11_slip 40 = .ok (.aload_n 0, 1) := by decide +kernel
theorem dX11_slip_41 : decode cX11_slip 41 = .ok (.getfield 28, 3) := by decide +kernel
theorem dX11_slip_44 : decode cX11_slip 44 = .ok (.aload_n 0, 1) := by decide +kernel
theorem dX11_slip_45 : decode cX11_slip 45 = .ok (.getfield 37, 3) := by decide +kernel
theorem dX11_slip_48 : decode cX11_slip 48 = .ok (.iload_n 1, 1) := by decide +kernel
theorem dX11_slip_49 : decode cX11_slip 49 = .ok (.iaload, 1) := by decide +kernel
theorem dX11_slip_50 : decode cX11_slip 50 = .ok (.iaload, 1) := by decide +kernel
theorem dX11_slip_51 : decode cX11_slip 51 = .ok (.iadd, 1) := by decide +kernel
theorem dX11_slip_52 : decode cX11_slip 52 = .ok (.iconst 3, 1) := by decide +kernel
theorem dX11_slip_53 : decode cX11_slip 53 = .ok (.if_icmp .ne 24, 3) := by decide +kernel
theorem dX11_slip_56 : decode cX11_slip 56 = .ok (.aload_n 0, 1) := by decide +kernel
theorem dX11_slip_57 : decode cX11_slip 57 = .ok (.getfield 22, 3) := by decide +kernel
theorem dX11_slip_60 : decode cX11_slip 60 = .ok (.aload_n 0, 1) := by decide +kernel
theorem dX11_slip_61 : decode cX11_slip 61 = .ok (.getfield 46, 3) := by decide +kernel
theorem dX11_slip_64 : decode cX11_slip 64 = .ok (.bipush 8, 2) := by decide +kernel
theorem dX11_slip_66 : decode cX11_slip 66 = .ok (.iload_n 1, 1) := by decide +kernel
theorem dX11_slip_67 : decode cX11_slip 67 = .ok (.imul, 1) := by decide +kernel
theorem dX11_slip_68 : decode cX11_slip 68 = .ok (.iload_n 2, 1) := by decide +kernel
theorem dX11_slip_69 : decode cX11_slip 69 = .ok (.iadd, 1) := by decide +kernel
theorem dX11_slip_70 : decode cX11_slip 70 = .ok (.iaload, 1) := by decide +kernel
theorem dX11_slip_71 : decode cX11_slip 71 = .ok (.iaload, 1) := by decide +kernel
theorem dX11_slip_72 : decode cX11_slip 72 = .ok (.ifCond .le 5, 3) := by decide +kernel
theorem dX11_slip_75 : decode cX11_slip 75 = .ok (.iload_n 2, 1) := by decide +kernel
theorem dX11_slip_76 : decode cX11_slip 76 = .ok (.ireturn, 1) := by decide +kernel
theorem dX11_slip_77 : decode cX11_slip 77 = .ok (.iinc 2 1, 3) := by decide +kernel
theorem dX11_slip_80 : decode cX11_slip 80 = .ok (.goto (-66), 3) := by decide +kernel
theorem dX11_slip_83 : decode cX11_slip 83 = .ok (.iconst (-1), 1) := by decide +kernel
theorem dX11_slip_84 : decode cX11_slip 84 = .ok (.ireturn, 1) := by decide +kernel
theorem dX11_said_0 : decode cX11_said 0 = .ok (.aload_n 0, 1) := by decide +kernel
theorem dX11_said_1 : decode cX11_said 1 = .ok (.iconst 1, 1) := by decide +kernel
theorem dX11_said_2 : decode cX11_said 2 = .ok (.iload_n 1, 1) := by decide +kernel
theorem dX11_said_3 : decode cX11_said 3 = .ok (.invokevirtual 136, 3) := by decide +kernel
theorem dX11_said_6 : decode cX11_said 6 = .ok (.ifCond .eq 26, 3) := by decide +kernel
theorem dX11_said_9 : decode cX11_said 9 = .ok (.aload_n 0, 1) := by decide +kernel
theorem dX11_said_10 : decode cX11_said 10 = .ok (.iconst 2, 1) := by decide +kernel
theorem dX11_said_11 : decode cX11_said 11 = .ok (.iload_n 2, 1) := by decide +kernel
theorem dX11_said_12 : decode cX11_said 12 = .ok (.invokevirtual 136, 3) := by decide +kernel
theorem dX11_said_15 : decode cX11_said 15 = .ok (.ifCond .eq 17, 3) := by decide +kernel
theorem dX11_said_18 : decode cX11_said 18 = .ok (.aload_n 0, 1) := by decide +kernel
theorem dX11_said_19 : decode cX11_said 19 = .ok (.iconst 2, 1) := by decide +kernel
theorem dX11_said_20 : decode cX11_said 20 = .ok (.iload_n 3, 1) := by decide +kernel
theorem dX11_said_21 : decode cX11_said 21 = .ok (.invokevirtual 136, 3) := by decide +kernel
theorem dX11_said_24 : decode cX11_said 24 = .ok (.ifCond .eq 8, 3) := by decide +kernel
theorem dX11_said_27 : decode cX11_said 27 = .ok (.iload_n 2, 1) := by decide +kernel
theorem dX11_said_28 : decode cX11_said 28 = .ok (.iload_n 3, 1) := by decide +kernel
theorem dX11_said_29 : decode cX11_said 29 = .ok (.if_icmp .ne 6, 3) := by decide +kernel
theorem dX11_said_32 : decode cX11_said 32 = .ok (.bipush (-2), 2) := by decide +kernel
theorem dX11_said_34 : decode cX11_said 34 = .ok (.ireturn, 1) := by decide +kernel
theorem dX11_said_35 : decode cX11_said 35 = .ok (.aload_n 0, 1) := by decide +kernel
theorem dX11_said_36 : decode cX11_said 36 = .ok (.getfield 16, 3) := by decide +kernel
theorem dX11_said_39 : decode cX11_said 39 = .ok (.iconst 4, 1) := by decide +kernel
theorem dX11_said_40 : decode cX11_said 40 = .ok (.iaload, 1) := by decide +kernel
theorem dX11_said_41 : decode cX11_said 41 = .ok (.bipush 40, 2) := by decide +kernel
theorem dX11_said_43 : decode cX11_said 43 = .ok (.if_icmp .ne 6, 3) := by decide +kernel
theorem dX11_said_46 : decode cX11_said 46 = .ok (.bipush (-4), 2) := by decide +kernel
theorem dX11_said_48 : decode cX11_said 48 = .ok (.ireturn, 1) := by decide +kernel
theorem dX11_said_49 : decode cX11_said 49 = .ok (.aload_n 0, 1) := by decide +kernel
theorem dX11_said_50 : decode cX11_said 50 = .ok (.getfield 55, 3) := by decide +kernel
theorem dX11_said_53 : decode cX11_said 53 = .ok (.aload_n 0, 1) := by decide +kernel
theorem dX11_said_54 : decode cX11_said 54 = .ok (.getfield 16, 3) := by decide +kernel
theorem dX11_said_57 : decode cX11_said 57 = .ok (.iconst 4, 1) := by decide +kernel
theorem dX11_said_58 : decode cX11_said 58 = .ok (.iaload, 1) := by decide +kernel
theorem dX11_said_59 : decode cX11_said 59 = .ok (.iload_n 1, 1) := by decide +kernel
theorem dX11_said_60 : decode cX11_said 60 = .ok (.iastore, 1) := by decide +kernel
theorem dX11_said_61 : decode cX11_said 61 = .ok (.aload_n 0, 1) := by decide +kernel
theorem dX11_said_62 : decode cX11_said 62 = .ok (.getfield 58, 3) := by decide +kernel
theorem dX11_said_65 : decode cX11_said 65 = .ok (.aload_n 0, 1) := by decide +kernel
theorem dX11_said_66 : decode cX11_said 66 = .ok (.getfield 16, 3) := by decide +kernel
theorem dX11_said_69 : decode cX11_said 69 = .ok (.iconst 4, 1) := by decide +kernel
theorem dX11_said_70 : decode cX11_said 70 = .ok (.iaload, 1) := by decide +kernel
theorem dX11_said_71 : decode cX11_said 71 = .ok (.iload_n 2, 1) := by decide +kernel
theorem dX11_said_72 : decode cX11_said 72 = .ok (.iastore, 1) := by decide +kernel
theorem dX11_said_73 : decode cX11_said 73 = .ok (.aload_n 0, 1) := by decide +kernel
theorem dX11_said_74 : decode cX11_said 74 = .ok (.getfield 61, 3) := by decide +kernel
theorem dX11_said_77 : decode cX11_said 77 = .ok (.aload_n 0, 1) := by decide +kernel
theorem dX11_said_78 : decode cX11_said 78 = .ok (.getfield 16, 3) := by decide +kernel
theorem dX11_said_81 : decode cX11_said 81 = .ok (.iconst 4, 1) := by decide +kernel
theorem dX11_said_82 : decode cX11_said 82 = .ok (.iaload, 1) := by decide +kernel
theorem dX11_said_83 : decode cX11_said 83 = .ok (.iload_n 3, 1) := by decide +kernel
theorem dX11_said_84 : decode cX11_said 84 = .ok (.iastore, 1) := by decide +kernel
theorem dX11_said_85 : decode cX11_said 85 = .ok (.aload_n 0, 1) := by decide +kernel
theorem dX11_said_86 : decode cX11_said 86 = .ok (.getfield 16, 3) := by decide +kernel
theorem dX11_said_89 : decode cX11_said 89 = .ok (.iconst 4, 1) := by decide +kernel
theorem dX11_said_90 : decode cX11_said 90 = .ok (.dup2, 1) := by decide +kernel
theorem dX11_said_91 : decode cX11_said 91 = .ok (.iaload, 1) := by decide +kernel
theorem dX11_said_92 : decode cX11_said 92 = .ok (.iconst 1, 1) := by decide +kernel
theorem dX11_said_93 : decode cX11_said 93 = .ok (.iadd, 1) := by decide +kernel
theorem dX11_said_94 : decode cX11_said 94 = .ok (.iastore, 1) := by decide +kernel
theorem dX11_said_95 : decode cX11_said 95 = .ok (.aload_n 0, 1) := by decide +kernel
theorem dX11_said_96 : decode cX11_said 96 = .ok (.getfield 16, 3) := by decide +kernel
theorem dX11_said_99 : decode cX11_said 99 = .ok (.iconst 4, 1) := by decide +kernel
theorem dX11_said_100 : decode cX11_said 100 = .ok (.iaload, 1) := by decide +kernel
theorem dX11_said_101 : decode cX11_said 101 = .ok (.ireturn, 1) := by decide +kernel
theorem dX11_againstNext_0 : decode cX11_againstNext 0 = .ok (.iconst 0, 1) := by decide +kernel
theorem dX11_againstNext_1 : decode cX11_againstNext 1 = .ok (.istore_n 3, 1) := by decide +kernel
theorem dX11_againstNext_2 : decode cX11_againstNext 2 = .ok (.iconst 0, 1) := by decide +kernel
theorem dX11_againstNext_3 : decode cX11_againstNext 3 = .ok (.istore 4, 2) := by decide +kernel
theorem dX11_againstNext_5 : decode cX11_againstNext 5 = .ok (.iload 4, 2) := by decide +kernel
theorem dX11_againstNext_7 : decode cX11_againstNext 7 = .ok (.aload_n 0, 1) := by decide +kernel
theorem dX11_againstNext_8 : decode cX11_againstNext 8 = .ok (.getfield 16, 3) := by decide +kernel
theorem dX11_againstNext_11 : decode cX11_againstNext 11 = .ok (.iconst 4, 1) := by decide +kernel
theorem dX11_againstNext_12 : decode cX11_againstNext 12 = .ok (.iaload, 1) := by decide +kernel
theorem dX11_againstNext_13 : decode cX11_againstNext 13 = .ok (.if_icmp .ge 42, 3) := by decide +kernel
theorem dX11_againstNext_16 : decode cX11_againstNext 16 = .ok (.iload_n 3, 1) := by decide +kernel
theorem dX11_againstNext_17 : decode cX11_againstNext 17 = .ok (.aload_n 0, 1) := by decide +kernel
theorem dX11_againstNext_18 : decode cX11_againstNext 18 = .ok (.getfield 61, 3) := by decide +kernel
theorem dX11_againstNext_21 : decode cX11_againstNext 21 = .ok (.iload 4, 2) := by decide +kernel
theorem dX11_againstNext_23 : decode cX11_againstNext 23 = .ok (.iaload, 1) := by decide +kernel
theorem dX11_againstNext_24 : decode cX11_againstNext 24 = .ok (.iload_n 1, 1) := by decide +kernel
theorem dX11_againstNext_25 : decode cX11_againstNext 25 = .ok (.if_icmp .ne 21, 3) := by decide +kernel
theorem dX11_againstNext_28 : decode cX11_againstNext 28 = .ok (.iload_n 2, 1) := by decide +kernel
theorem dX11_againstNext_29 : decode cX11_againstNext 29 = .ok (.aload_n 0, 1) := by decide +kernel
theorem dX11_againstNext_30 : decode cX11_againstNext 30 = .ok (.getfield 58, 3) := by decide +kernel
theorem dX11_againstNext_33 : decode cX11_againstNext 33 = .ok (.iload 4, 2) := by decide +kernel
theorem dX11_againstNext_35 : decode cX11_againstNext 35 = .ok (.iaload, 1) := by decide +kernel
theorem dX11_againstNext_36 : decode cX11_againstNext 36 = .ok (.ishr, 1) := by decide +kernel
theorem dX11_againstNext_37 : decode cX11_againstNext 37 = .ok (.iconst 1, 1) := by decide +kernel
theorem dX11_againstNext_38 : decode cX11_againstNext 38 = .ok (.iand, 1) := by decide +kernel
theorem dX11_againstNext_39 : decode cX11_againstNext 39 = .ok (.ifCond .ne 7, 3) := by decide +kernel
theorem dX11_againstNext_42 : decode cX11_againstNext 42 = .ok (.iconst 1, 1) := by decide +kernel
theorem dX11_againstNext_43 : decode cX11_againstNext 43 = .ok (.goto 4, 3) := by decide +kernel
theorem dX11_againstNext_46 : decode cX11_againstNext 46 = .ok (.iconst 0, 1) := by decide +kernel
theorem dX11_againstNext_47 : decode cX11_againstNext 47 = .ok (.iadd, 1) := by decide +kernel
theorem dX11_againstNext_48 : decode cX11_againstNext 48 = .ok (.istore_n 3, 1) := by decide +kernel
theorem dX11_againstNext_49 : decode cX11_againstNext 49 = .ok (.iinc 4 1, 3) := by decide +kernel
theorem dX11_againstNext_52 : decode cX11_againstNext 52 = .ok (.goto (-47), 3) := by decide +kernel
theorem dX11_againstNext_55 : decode cX11_againstNext 55 = .ok (.iload_n 3, 1) := by decide +kernel
theorem dX11_againstNext_56 : decode cX11_againstNext 56 = .ok (.ireturn, 1) := by decide +kernel
theorem dX11_orders_0 : decode cX11_orders 0 = .ok (.iconst 1, 1) := by decide +kernel
theorem dX11_orders_1 : decode cX11_orders 1 = .ok (.aload_n 0, 1) := by decide +kernel
theorem dX11_orders_2 : decode cX11_orders 2 = .ok (.getfield 16, 3) := by decide +kernel
theorem dX11_orders_5 : decode cX11_orders 5 = .ok (.iconst 2, 1) := by decide +kernel
theorem dX11_orders_6 : decode cX11_orders 6 = .ok (.iaload, 1) := by decide +kernel
theorem dX11_orders_7 : decode cX11_orders 7 = .ok (.ishl, 1) := by decide +kernel
theorem dX11_orders_8 : decode cX11_orders 8 = .ok (.iconst 1, 1) := by decide +kernel
theorem dX11_orders_9 : decode cX11_orders 9 = .ok (.isub, 1) := by decide +kernel
theorem dX11_orders_10 : decode cX11_orders 10 = .ok (.istore_n 3, 1) := by decide +kernel
theorem dX11_orders_11 : decode cX11_orders 11 = .ok (.iload_n 3, 1) := by decide +kernel
theorem dX11_orders_12 : decode cX11_orders 12 = .ok (.istore 4, 2) := by decide +kernel
theorem dX11_orders_14 : decode cX11_orders 14 = .ok (.iload 4, 2) := by decide +kernel
theorem dX11_orders_16 : decode cX11_orders 16 = .ok (.ifCond .lt 147, 3) := by decide +kernel
theorem dX11_orders_19 : decode cX11_orders 19 = .ok (.aload_n 0, 1) := by decide +kernel
theorem dX11_orders_20 : decode cX11_orders 20 = .ok (.getfield 64, 3) := by decide +kernel
theorem dX11_orders_23 : decode cX11_orders 23 = .ok (.iload 4, 2) := by decide +kernel
theorem dX11_orders_25 : decode cX11_orders 25 = .ok (.iload 4, 2) := by decide +kernel
theorem dX11_orders_27 : decode cX11_orders 27 = .ok (.iload_n 3, 1) := by decide +kernel
theorem dX11_orders_28 : decode cX11_orders 28 = .ok (.if_icmp .ne 7, 3) := by decide +kernel
theorem dX11_orders_31 : decode cX11_orders 31 = .ok (.iconst 0, 1) := by decide +kernel
theorem dX11_orders_32 : decode cX11_orders 32 = .ok (.goto 6, 3) := by decide +kernel
theorem dX11_orders_35 : decode cX11_orders 35 = .ok (.sipush 1000, 3) := by decide +kernel
theorem dX11_orders_38 : decode cX11_orders 38 = .ok (.iastore, 1) := by decide +kernel
theorem dX11_orders_39 : decode cX11_orders 39 = .ok (.iconst 0, 1) := by decide +kernel
theorem dX11_orders_40 : decode cX11_orders 40 = .ok (.istore 5, 2) := by decide +kernel
theorem dX11_orders_42 : decode cX11_orders 42 = .ok (.iload 5, 2) := by decide +kernel
theorem dX11_orders_44 : decode cX11_orders 44 = .ok (.aload_n 0, 1) := by decide +kernel
theorem dX11_orders_45 : decode cX11_orders 45 = .ok (.getfield 16, 3) := by decide +kernel
theorem dX11_orders_48 : decode cX11_orders 48 = .ok (.iconst 2, 1) := by decide +kernel
theorem dX11_orders_49 : decode cX11_orders 49 = .ok (.iaload, 1) := by decide +kernel
theorem dX11_orders_50 : decode cX11_orders 50 = .ok (.if_icmp .ge 107, 3) := by decide +kernel
theorem dX11_orders_53 : decode cX11_orders 53 = .ok (.iload 4, 2) := by decide +kernel
theorem dX11_orders_55 : decode cX11_orders 55 = .ok (.iload 5, 2) := by decide +kernel
theorem dX11_orders_57 : decode cX11_orders 57 = .ok (.ishr, 1) := by decide +kernel
theorem dX11_orders_58 : decode cX11_orders 58 = .ok (.iconst 1, 1) := by decide +kernel
theorem dX11_orders_59 : decode cX11_orders 59 = .ok (.iand, 1) := by decide +kernel
theorem dX11_orders_60 : decode cX11_orders 60 = .ok (.ifCond .ne 23, 3) := by decide +kernel
theorem dX11_orders_63 : decode cX11_orders 63 = .ok (.iload 5, 2) := by decide +kernel
theorem dX11_orders_65 : decode cX11_orders 65 = .ok (.iload_n 1, 1) := by decide +kernel
theorem dX11_orders_66 : decode cX11_orders 66 = .ok (.if_icmp .ne 13, 3) := by decide +kernel
theorem dX11_orders_69 : decode cX11_orders 69 = .ok (.iload 4, 2) := by decide +kernel
theorem dX11_orders_71 : decode cX11_orders 71 = .ok (.iload_n 2, 1) := by decide +kernel
theorem dX11_orders_72 : decode cX11_orders 72 = .ok (.ishr, 1) := by decide +kernel
theorem dX11_orders_73 : decode cX11_orders 73 = .ok (.iconst 1, 1) := by decide +kernel
theorem dX11_orders_74 : decode cX11_orders 74 = .ok (.iand, 1) := by decide +kernel
theorem dX11_orders_75 : decode cX11_orders 75 = .ok (.iconst 1, 1) := by decide +kernel
theorem dX11_orders_76 : decode cX11_orders 76 = .ok (.if_icmp .ne 7, 3) := by decide +kernel
theorem dX11_orders_79 : decode cX11_orders 79 = .ok (.iconst 1, 1) := by decide +kernel
theorem dX11_orders_80 : decode cX11_orders 80 = .ok (.goto 4, 3) := by decide +kernel
theorem dX11_orders_83 : decode cX11_orders 83 = .ok (.iconst 0, 1) := by decide +kernel
theorem dX11_orders_84 : decode cX11_orders 84 = .ok (.istore 6, 2) := by decide +kernel
theorem dX11_orders_86 : decode cX11_orders 86 = .ok (.iload 6, 2) := by decide +kernel
theorem dX11_orders_88 : decode cX11_orders 88 = .ok (.ifCond .eq 27, 3) := by decide +kernel
theorem dX11_orders_91 : decode cX11_orders 91 = .ok (.aload_n 0, 1) := by decide +kernel
theorem dX11_orders_92 : decode cX11_orders 92 = .ok (.iload 5, 2) := by decide +kernel
theorem dX11_orders_94 : decode cX11_orders 94 = .ok (.iload 4, 2) := by decide +kernel
theorem dX11_orders_96 : decode cX11_orders 96 = .ok (.invokevirtual 213, 3) := by decide +kernel
theorem dX11_orders_99 : decode cX11_orders 99 = .ok (.aload_n 0, 1) := by decide +kernel
theorem dX11_orders_100 : decode cX11_orders 100 = .ok (.getfield 64, 3) := by decide +kernel
theorem dX11_orders_103 : decode cX11_orders 103 = .ok (.iload 4, 2) := by decide +kernel
theorem dX11_orders_105 : decode cX11_orders 105 = .ok (.iconst 1, 1) := by decide +kernel
theorem dX11_orders_106 : decode cX11_orders 106 = .ok (.iload 5, 2) := by decide +kernel
theorem dX11_orders_108 : decode cX11_orders 108 = .ok (.ishl, 1) := by decide +kernel
theorem dX11_orders_109 : decode cX11_orders 109 = .ok (.ior, 1) := by decide +kernel
theorem dX11_orders_110 : decode cX11_orders 110 = .ok (.iaload, 1) := by decide +kernel
theorem dX11_orders_111 : decode cX11_orders 111 = .ok (.iadd, 1) := by decide +kernel
theorem dX11_orders_112 : decode cX11_orders 112 = .ok (.goto 6, 3) := by decide +kernel
theorem dX11_orders_115 : decode cX11_orders 115 = .ok (.sipush 1000, 3) := by decide +kernel
theorem dX11_orders_118 : decode cX11_orders 118 = .ok (.istore 7, 2) := by decide +kernel
theorem dX11_orders_120 : decode cX11_orders 120 = .ok (.aload_n 0, 1) := by decide +kernel
theorem dX11_orders_121 : decode cX11_orders 121 = .ok (.getfield 64, 3) := by decide +kernel
theorem dX11_orders_124 : decode cX11_orders 124 = .ok (.iload 4, 2) := by decide +kernel
theorem dX11_orders_126 : decode cX11_orders 126 = .ok (.iload 7, 2) := by decide +kernel
theorem dX11_orders_128 : decode cX11_orders 128 = .ok (.aload_n 0, 1) := by decide +kernel
theorem dX11_orders_129 : decode cX11_orders 129 = .ok (.getfield 64, 3) := by decide +kernel
theorem dX11_orders_132 : decode cX11_orders 132 = .ok (.iload 4, 2) := by decide +kernel
theorem dX11_orders_134 : decode cX11_orders 134 = .ok (.iaload, 1) := by decide +kernel
theorem dX11_orders_135 : decode cX11_orders 135 = .ok (.if_icmp .ge 8, 3) := by decide +kernel
theorem dX11_orders_138 : decode cX11_orders 138 = .ok (.iload 7, 2) := by decide +kernel
theorem dX11_orders_140 : decode cX11_orders 140 = .ok (.goto 10, 3) := by decide +kernel
theorem dX11_orders_143 : decode cX11_orders 143 = .ok (.aload_n 0, 1) := by decide +kernel
theorem dX11_orders_144 : decode cX11_orders 144 = .ok (.getfield 64, 3) := by decide +kernel
theorem dX11_orders_147 : decode cX11_orders 147 = .ok (.iload 4, 2) := by decide +kernel
theorem dX11_orders_149 : decode cX11_orders 149 = .ok (.iaload, 1) := by decide +kernel
theorem dX11_orders_150 : decode cX11_orders 150 = .ok (.iastore, 1) := by decide +kernel
theorem dX11_orders_151 : decode cX11_orders 151 = .ok (.iinc 5 1, 3) := by decide +kernel
theorem dX11_orders_154 : decode cX11_orders 154 = .ok (.goto (-112), 3) := by decide +kernel
theorem dX11_orders_157 : decode cX11_orders 157 = .ok (.iinc 4 (-1), 3) := by decide +kernel
theorem dX11_orders_160 : decode cX11_orders 160 = .ok (.goto (-146), 3) := by decide +kernel
theorem dX11_orders_163 : decode cX11_orders 163 = .ok (.aload_n 0, 1) := by decide +kernel
theorem dX11_orders_164 : decode cX11_orders 164 = .ok (.getfield 64, 3) := by decide +kernel
theorem dX11_orders_167 : decode cX11_orders 167 = .ok (.iconst 0, 1) := by decide +kernel
theorem dX11_orders_168 : decode cX11_orders 168 = .ok (.iaload, 1) := by decide +kernel
theorem dX11_orders_169 : decode cX11_orders 169 = .ok (.ireturn, 1) := by decide +kernel
theorem dX11_order_0 : decode cX11_order 0 = .ok (.iload_n 1, 1) := by decide +kernel
theorem dX11_order_1 : decode cX11_order 1 = .ok (.iconst (-1), 1) := by decide +kernel
theorem dX11_order_2 : decode cX11_order 2 = .ok (.if_icmp .eq 15, 3) := by decide +kernel
theorem dX11_order_5 : decode cX11_order 5 = .ok (.aload_n 0, 1) := by decide +kernel
theorem dX11_order_6 : decode cX11_order 6 = .ok (.iconst 2, 1) := by decide +kernel
theorem dX11_order_7 : decode cX11_order 7 = .ok (.iload_n 1, 1) := by decide +kernel
theorem dX11_order_8 : decode cX11_order 8 = .ok (.invokevirtual 136, 3) := by decide +kernel
theorem dX11_order_11 : decode cX11_order 11 = .ok (.ifCond .ne 6, 3) := by decide +kernel
theorem dX11_order_14 : decode cX11_order 14 = .ok (.bipush (-10), 2) := by decide +kernel
theorem dX11_order_16 : decode cX11_order 16 = .ok (.ireturn, 1) := by decide +kernel
theorem dX11_order_17 : decode cX11_order 17 = .ok (.aload_n 0, 1) := by decide +kernel
theorem dX11_order_18 : decode cX11_order 18 = .ok (.iconst (-1), 1) := by decide +kernel
theorem dX11_order_19 : decode cX11_order 19 = .ok (.iconst 0, 1) := by decide +kernel
theorem dX11_order_20 : decode cX11_order 20 = .ok (.invokevirtual 216, 3) := by decide +kernel
theorem dX11_order_23 : decode cX11_order 23 = .ok (.istore_n 2, 1) := by decide +kernel
theorem dX11_order_24 : decode cX11_order 24 = .ok (.iload_n 1, 1) := by decide +kernel
theorem dX11_order_25 : decode cX11_order 25 = .ok (.iconst (-1), 1) := by decide +kernel
theorem dX11_order_26 : decode cX11_order 26 = .ok (.if_icmp .ne 5, 3) := by decide +kernel
theorem dX11_order_29 : decode cX11_order 29 = .ok (.iload_n 2, 1) := by decide +kernel
theorem dX11_order_30 : decode cX11_order 30 = .ok (.ireturn, 1) := by decide +kernel
theorem dX11_order_31 : decode cX11_order 31 = .ok (.iconst 0, 1) := by decide +kernel
theorem dX11_order_32 : decode cX11_order 32 = .ok (.istore_n 3, 1) := by decide +kernel
theorem dX11_order_33 : decode cX11_order 33 = .ok (.iconst (-1), 1) := by decide +kernel
theorem dX11_order_34 : decode cX11_order 34 = .ok (.istore 4, 2) := by decide +kernel
theorem dX11_order_36 : decode cX11_order 36 = .ok (.iconst 0, 1) := by decide +kernel
theorem dX11_order_37 : decode cX11_order 37 = .ok (.istore 5, 2) := by decide +kernel
theorem dX11_order_39 : decode cX11_order 39 = .ok (.iload 5, 2) := by decide +kernel
theorem dX11_order_41 : decode cX11_order 41 = .ok (.iload_n 1, 1) := by decide +kernel
theorem dX11_order_42 : decode cX11_order 42 = .ok (.if_icmp .gt 98, 3) := by decide +kernel
theorem dX11_order_45 : decode cX11_order 45 = .ok (.iconst (-1), 1) := by decide +kernel
theorem dX11_order_46 : decode cX11_order 46 = .ok (.istore 4, 2) := by decide +kernel
theorem dX11_order_48 : decode cX11_order 48 = .ok (.aload_n 0, 1) := by decide +kernel
theorem dX11_order_49 : decode cX11_order 49 = .ok (.getfield 16, 3) := by decide +kernel
theorem dX11_order_52 : decode cX11_order 52 = .ok (.iconst 2, 1) := by decide +kernel
theorem dX11_order_53 : decode cX11_order 53 = .ok (.iaload, 1) := by decide +kernel
theorem dX11_order_54 : decode cX11_order 54 = .ok (.iconst 1, 1) := by decide +kernel
theorem dX11_order_55 : decode cX11_order 55 = .ok (.isub, 1) := by decide +kernel
theorem dX11_order_56 : decode cX11_order 56 = .ok (.istore 6, 2) := by decide +kernel
theorem dX11_order_58 : decode cX11_order 58 = .ok (.iload 6, 2) := by decide +kernel
theorem dX11_order_60 : decode cX11_order 60 = .ok (.ifCond .lt 67, 3) := by decide +kernel
theorem dX11_order_63 : decode cX11_order 63 = .ok (.iload_n 3, 1) := by decide +kernel
theorem dX11_order_64 : decode cX11_order 64 = .ok (.iload 6, 2) := by decide +kernel
theorem dX11_order_66 : decode cX11_order 66 = .ok (.ishr, 1) := by decide +kernel
theorem dX11_order_67 : decode cX11_order 67 = .ok (.iconst 1, 1) := by decide +kernel
theorem dX11_order_68 : decode cX11_order 68 = .ok (.iand, 1) := by decide +kernel
theorem dX11_order_69 : decode cX11_order 69 = .ok (.ifCond .ne 35, 3) := by decide +kernel
theorem dX11_order_72 : decode cX11_order 72 = .ok (.aload_n 0, 1) := by decide +kernel
theorem dX11_order_73 : decode cX11_order 73 = .ok (.iload 6, 2) := by decide +kernel
theorem dX11_order_75 : decode cX11_order 75 = .ok (.iload_n 3, 1) := by decide +kernel
theorem dX11_order_76 : decode cX11_order 76 = .ok (.invokevirtual 213, 3) := by decide +kernel
theorem dX11_order_79 : decode cX11_order 79 = .ok (.aload_n 0, 1) := by decide +kernel
theorem dX11_order_80 : decode cX11_order 80 = .ok (.getfield 64, 3) := by decide +kernel
theorem dX11_order_83 : decode cX11_order 83 = .ok (.iload_n 3, 1) := by decide +kernel
theorem dX11_order_84 : decode cX11_order 84 = .ok (.iconst 1, 1) := by decide +kernel
theorem dX11_order_85 : decode cX11_order 85 = .ok (.iload 6, 2) := by decide +kernel
theorem dX11_order_87 : decode cX11_order 87 = .ok (.ishl, 1) := by decide +kernel
theorem dX11_order_88 : decode cX11_order 88 = .ok (.ior, 1) := by decide +kernel
theorem dX11_order_89 : decode cX11_order 89 = .ok (.iaload, 1) := by decide +kernel
theorem dX11_order_90 : decode cX11_order 90 = .ok (.iadd, 1) := by decide +kernel
theorem dX11_order_91 : decode cX11_order 91 = .ok (.aload_n 0, 1) := by decide +kernel
theorem dX11_order_92 : decode cX11_order 92 = .ok (.getfield 64, 3) := by decide +kernel
theorem dX11_order_95 : decode cX11_order 95 = .ok (.iload_n 3, 1) := by decide +kernel
theorem dX11_order_96 : decode cX11_order 96 = .ok (.iaload, 1) := by decide +kernel
theorem dX11_order_97 : decode cX11_order 97 = .ok (.if_icmp .ne 7, 3) := by decide +kernel
theorem dX11_order_100 : decode cX11_order 100 = .ok (.iconst 1, 1) := by decide +kernel
theorem dX11_order_101 : decode cX11_order 101 = .ok (.goto 4, 3) := by decide +kernel
theorem dX11_order_104 : decode cX11_order 104 = .ok (.iconst 0, 1) := by decide +kernel
theorem dX11_order_105 : decode cX11_order 105 = .ok (.istore 7, 2) := by decide +kernel
theorem dX11_order_107 : decode cX11_order 107 = .ok (.iload 7, 2) := by decide +kernel
theorem dX11_order_109 : decode cX11_order 109 = .ok (.ifCond .eq 8, 3) := by decide +kernel
theorem dX11_order_112 : decode cX11_order 112 = .ok (.iload 6, 2) := by decide +kernel
theorem dX11_order_114 : decode cX11_order 114 = .ok (.goto 5, 3) := by decide +kernel
theorem dX11_order_117 : decode cX11_order 117 = .ok (.iload 4, 2) := by decide +kernel
theorem dX11_order_119 : decode cX11_order 119 = .ok (.istore 4, 2) := by decide +kernel
theorem dX11_order_121 : decode cX11_order 121 = .ok (.iinc 6 (-1), 3) := by decide +kernel
theorem dX11_order_124 : decode cX11_order 124 = .ok (.goto (-66), 3) := by decide +kernel
theorem dX11_order_127 : decode cX11_order 127 = .ok (.iload_n 3, 1) := by decide +kernel
theorem dX11_order_128 : decode cX11_order 128 = .ok (.iconst 1, 1) := by decide +kernel
theorem dX11_order_129 : decode cX11_order 129 = .ok (.iload 4, 2) := by decide +kernel
theorem dX11_order_131 : decode cX11_order 131 = .ok (.ishl, 1) := by decide +kernel
theorem dX11_order_132 : decode cX11_order 132 = .ok (.ior, 1) := by decide +kernel
theorem dX11_order_133 : decode cX11_order 133 = .ok (.istore_n 3, 1) := by decide +kernel
theorem dX11_order_134 : decode cX11_order 134 = .ok (.iinc 5 1, 3) := by decide +kernel
theorem dX11_order_137 : decode cX11_order 137 = .ok (.goto (-98), 3) := by decide +kernel
theorem dX11_order_140 : decode cX11_order 140 = .ok (.iload 4, 2) := by decide +kernel
theorem dX11_order_142 : decode cX11_order 142 = .ok (.ireturn, 1) := by decide +kernel
theorem dX11_sure_0 : decode cX11_sure 0 = .ok (.aload_n 0, 1) := by decide +kernel
theorem dX11_sure_1 : decode cX11_sure 1 = .ok (.iconst 2, 1) := by decide +kernel
theorem dX11_sure_2 : decode cX11_sure 2 = .ok (.iload_n 1, 1) := by decide +kernel
theorem dX11_sure_3 : decode cX11_sure 3 = .ok (.invokevirtual 136, 3) := by decide +kernel
theorem dX11_sure_6 : decode cX11_sure 6 = .ok (.ifCond .eq 17, 3) := by decide +kernel
theorem dX11_sure_9 : decode cX11_sure 9 = .ok (.aload_n 0, 1) := by decide +kernel
theorem dX11_sure_10 : decode cX11_sure 10 = .ok (.iconst 2, 1) := by decide +kernel
theorem dX11_sure_11 : decode cX11_sure 11 = .ok (.iload_n 2, 1) := by decide +kernel
theorem dX11_sure_12 : decode cX11_sure 12 = .ok (.invokevirtual 136, 3) := by decide +kernel
theorem dX11_sure_15 : decode cX11_sure 15 = .ok (.ifCond .eq 8, 3) := by decide +kernel
theorem dX11_sure_18 : decode cX11_sure 18 = .ok (.iload_n 1, 1) := by decide +kernel
theorem dX11_sure_19 : decode cX11_sure 19 = .ok (.iload_n 2, 1) := by decide +kernel
theorem dX11_sure_20 : decode cX11_sure 20 = .ok (.if_icmp .ne 6, 3) := by decide +kernel
theorem dX11_sure_23 : decode cX11_sure 23 = .ok (.bipush (-2), 2) := by decide +kernel
theorem dX11_sure_25 : decode cX11_sure 25 = .ok (.ireturn, 1) := by decide +kernel
theorem dX11_sure_26 : decode cX11_sure 26 = .ok (.aload_n 0, 1) := by decide +kernel
theorem dX11_sure_27 : decode cX11_sure 27 = .ok (.iconst (-1), 1) := by decide +kernel
theorem dX11_sure_28 : decode cX11_sure 28 = .ok (.iconst 0, 1) := by decide +kernel
theorem dX11_sure_29 : decode cX11_sure 29 = .ok (.invokevirtual 216, 3) := by decide +kernel
theorem dX11_sure_32 : decode cX11_sure 32 = .ok (.istore_n 3, 1) := by decide +kernel
theorem dX11_sure_33 : decode cX11_sure 33 = .ok (.aload_n 0, 1) := by decide +kernel
theorem dX11_sure_34 : decode cX11_sure 34 = .ok (.iload_n 1, 1) := by decide +kernel
theorem dX11_sure_35 : decode cX11_sure 35 = .ok (.iload_n 2, 1) := by decide +kernel
theorem dX11_sure_36 : decode cX11_sure 36 = .ok (.invokevirtual 216, 3) := by decide +kernel
theorem dX11_sure_39 : decode cX11_sure 39 = .ok (.iload_n 3, 1) := by decide +kernel
theorem dX11_sure_40 : decode cX11_sure 40 = .ok (.if_icmp .le 7, 3) := by decide +kernel
theorem dX11_sure_43 : decode cX11_sure 43 = .ok (.iconst 1, 1) := by decide +kernel
theorem dX11_sure_44 : decode cX11_sure 44 = .ok (.goto 4, 3) := by decide +kernel
theorem dX11_sure_47 : decode cX11_sure 47 = .ok (.iconst 0, 1) := by decide +kernel
theorem dX11_sure_48 : decode cX11_sure 48 = .ok (.ireturn, 1) := by decide +kernel
theorem dX11_kin_0 : decode cX11_kin 0 = .ok (.iload_n 1, 1) := by decide +kernel
theorem dX11_kin_1 : decode cX11_kin 1 = .ok (.i2l, 1) := by decide +kernel
theorem dX11_kin_2 : decode cX11_kin 2 = .ok (.lconst 0, 1) := by decide +kernel
theorem dX11_kin_3 : decode cX11_kin 3 = .ok (.ldc2_w 219, 3) := by decide +kernel
theorem dX11_kin_6 : decode cX11_kin 6 = .ok (.invokestatic 120, 3) := by decide +kernel
theorem dX11_kin_9 : decode cX11_kin 9 = .ok (.ifCond .eq 15, 3) := by decide +kernel
theorem dX11_kin_12 : decode cX11_kin 12 = .ok (.iload_n 2, 1) := by decide +kernel
theorem dX11_kin_13 : decode cX11_kin 13 = .ok (.i2l, 1) := by decide +kernel
theorem dX11_kin_14 : decode cX11_kin 14 = .ok (.lconst 0, 1) := by decide +kernel
theorem dX11_kin_15 : decode cX11_kin 15 = .ok (.ldc2_w 221, 3) := by decide +kernel
theorem dX11_kin_18 : decode cX11_kin 18 = .ok (.invokestatic 120, 3) := by decide +kernel
theorem dX11_kin_21 : decode cX11_kin 21 = .ok (.ifCond .ne 6, 3) := by decide +kernel
theorem dX11_kin_24 : decode cX11_kin 24 = .ok (.bipush (-2), 2) := by decide +kernel
theorem dX11_kin_26 : decode cX11_kin 26 = .ok (.ireturn, 1) := by decide +kernel
theorem dX11_kin_27 : decode cX11_kin 27 = .ok (.aload_n 0, 1) := by decide +kernel
theorem dX11_kin_28 : decode cX11_kin 28 = .ok (.getfield 67, 3) := by decide +kernel
theorem dX11_kin_31 : decode cX11_kin 31 = .ok (.iload_n 1, 1) := by decide +kernel
theorem dX11_kin_32 : decode cX11_kin 32 = .ok (.iaload, 1) := by decide +kernel
theorem dX11_kin_33 : decode cX11_kin 33 = .ok (.istore_n 3, 1) := by decide +kernel
theorem dX11_kin_34 : decode cX11_kin 34 = .ok (.aload_n 0, 1) := by decide +kernel
theorem dX11_kin_35 : decode cX11_kin 35 = .ok (.getfield 67, 3) := by decide +kernel
theorem dX11_kin_38 : decode cX11_kin 38 = .ok (.iload_n 1, 1) := by decide +kernel
theorem dX11_kin_39 : decode cX11_kin 39 = .ok (.iload_n 2, 1) := by decide +kernel
theorem dX11_kin_40 : decode cX11_kin 40 = .ok (.iastore, 1) := by decide +kernel
theorem dX11_kin_41 : decode cX11_kin 41 = .ok (.iload_n 3, 1) := by decide +kernel
theorem dX11_kin_42 : decode cX11_kin 42 = .ok (.ireturn, 1) := by decide +kernel
theorem dX11_mayRead_0 : decode cX11_mayRead 0 = .ok (.aload_n 0, 1) := by decide +kernel
theorem dX11_mayRead_1 : decode cX11_mayRead 1 = .ok (.getfield 67, 3) := by decide +kernel
theorem dX11_mayRead_4 : decode cX11_mayRead 4 = .ok (.iload_n 1, 1) := by decide +kernel
theorem dX11_mayRead_5 : decode cX11_mayRead 5 = .ok (.iaload, 1) := by decide +kernel
theorem dX11_mayRead_6 : decode cX11_mayRead 6 = .ok (.aload_n 0, 1) := by decide +kernel
theorem dX11_mayRead_7 : decode cX11_mayRead 7 = .ok (.getfield 34, 3) := by decide +kernel
theorem dX11_mayRead_10 : decode cX11_mayRead 10 = .ok (.iload_n 2, 1) := by decide +kernel
theorem dX11_mayRead_11 : decode cX11_mayRead 11 = .ok (.iaload, 1) := by decide +kernel
theorem dX11_mayRead_12 : decode cX11_mayRead 12 = .ok (.ishr, 1) := by decide +kernel
theorem dX11_mayRead_13 : decode cX11_mayRead 13 = .ok (.iconst 1, 1) := by decide +kernel
theorem dX11_mayRead_14 : decode cX11_mayRead 14 = .ok (.iand, 1) := by decide +kernel
theorem dX11_mayRead_15 : decode cX11_mayRead 15 = .ok (.ifCond .ne 7, 3) := by decide +kernel
theorem dX11_mayRead_18 : decode cX11_mayRead 18 = .ok (.iconst 1, 1) := by decide +kernel
theorem dX11_mayRead_19 : decode cX11_mayRead 19 = .ok (.goto 4, 3) := by decide +kernel
theorem dX11_mayRead_22 : decode cX11_mayRead 22 = .ok (.iconst 0, 1) := by decide +kernel
theorem dX11_mayRead_23 : decode cX11_mayRead 23 = .ok (.ireturn, 1) := by decide +kernel
theorem dX11_isFree_0 : decode cX11_isFree 0 = .ok (.iconst 1, 1) := by decide +kernel
theorem dX11_isFree_1 : decode cX11_isFree 1 = .ok (.istore_n 2, 1) := by decide +kernel
theorem dX11_isFree_2 : decode cX11_isFree 2 = .ok (.iconst 0, 1) := by decide +kernel
theorem dX11_isFree_3 : decode cX11_isFree 3 = .ok (.istore_n 3, 1) := by decide +kernel
theorem dX11_isFree_4 : decode cX11_isFree 4 = .ok (.iload_n 3, 1) := by decide +kernel
theorem dX11_isFree_5 : decode cX11_isFree 5 = .ok (.iload_n 1, 1) := by decide +kernel
theorem dX11_isFree_6 : decode cX11_isFree 6 = .ok (.if_icmp .ge 34, 3) := by decide +kernel
theorem dX11_isFree_9 : decode cX11_isFree 9 = .ok (.iload_n 2, 1) := by decide +kernel
theorem dX11_isFree_10 : decode cX11_isFree 10 = .ok (.ifCond .eq 22, 3) := by decide +kernel
theorem dX11_isFree_13 : decode cX11_isFree 13 = .ok (.aload_n 0, 1) := by decide +kernel
theorem dX11_isFree_14 : decode cX11_isFree 14 = .ok (.getfield 73, 3) := by decide +kernel
theorem dX11_isFree_17 : decode cX11_isFree 17 = .ok (.iload_n 3, 1) := by decide +kernel
theorem dX11_isFree_18 : decode cX11_isFree 18 = .ok (.iaload, 1) := by decide +kernel
theorem dX11_isFree_19 : decode cX11_isFree 19 = .ok (.aload_n 0, 1) := by decide +kernel
theorem dX11_isFree_20 : decode cX11_isFree 20 = .ok (.getfield 73, 3) := by decide +kernel
theorem dX11_isFree_23 : decode cX11_isFree 23 = .ok (.iload_n 1, 1) := by decide +kernel
theorem dX11_isFree_24 : decode cX11_isFree 24 = .ok (.iaload, 1) := by decide +kernel
theorem dX11_isFree_25 : decode cX11_isFree 25 = .ok (.if_icmp .eq 7, 3) := by decide +kernel
theorem dX11_isFree_28 : decode cX11_isFree 28 = .ok (.iconst 1, 1) := by decide +kernel
theorem dX11_isFree_29 : decode cX11_isFree 29 = .ok (.goto 4, 3) := by decide +kernel
theorem dX11_isFree_32 : decode cX11_isFree 32 = .ok (.iconst 0, 1) := by decide +kernel
theorem dX11_isFree_33 : decode cX11_isFree 33 = .ok (.istore_n 2, 1) := by decide +kernel
theorem dX11_isFree_34 : decode cX11_isFree 34 = .ok (.iinc 3 1, 3) := by decide +kernel
theorem dX11_isFree_37 : decode cX11_isFree 37 = .ok (.goto (-33), 3) := by decide +kernel
theorem dX11_isFree_40 : decode cX11_isFree 40 = .ok (.iload_n 2, 1) := by decide +kernel
theorem dX11_isFree_41 : decode cX11_isFree 41 = .ok (.ireturn, 1) := by decide +kernel
theorem dX11_deals_0 : decode cX11_deals 0 = .ok (.iconst 0, 1) := by decide +kernel
theorem dX11_deals_1 : decode cX11_deals 1 = .ok (.istore_n 2, 1) := by decide +kernel
theorem dX11_deals_2 : decode cX11_deals 2 = .ok (.iconst 0, 1) := by decide +kernel
theorem dX11_deals_3 : decode cX11_deals 3 = .ok (.istore_n 3, 1) := by decide +kernel
theorem dX11_deals_4 : decode cX11_deals 4 = .ok (.aload_n 0, 1) := by decide +kernel
theorem dX11_deals_5 : decode cX11_deals 5 = .ok (.getfield 73, 3) := by decide +kernel
theorem dX11_deals_8 : decode cX11_deals 8 = .ok (.iconst 0, 1) := by decide +kernel
theorem dX11_deals_9 : decode cX11_deals 9 = .ok (.iconst (-1), 1) := by decide +kernel
theorem dX11_deals_10 : decode cX11_deals 10 = .ok (.iastore, 1) := by decide +kernel
theorem dX11_deals_11 : decode cX11_deals 11 = .ok (.iload_n 3, 1) := by decide +kernel
theorem dX11_deals_12 : decode cX11_deals 12 = .ok (.ifCond .lt 116, 3) := by decide +kernel
theorem dX11_deals_15 : decode cX11_deals 15 = .ok (.aload_n 0, 1) := by decide +kernel
theorem dX11_deals_16 : decode cX11_deals 16 = .ok (.getfield 73, 3) := by decide +kernel
theorem dX11_deals_19 : decode cX11_deals 19 = .ok (.iload_n 3, 1) := by decide +kernel
theorem dX11_deals_20 : decode cX11_deals 20 = .ok (.dup2, 1) := by decide +kernel
theorem dX11_deals_21 : decode cX11_deals 21 = .ok (.iaload, 1) := by decide +kernel
theorem dX11_deals_22 : decode cX11_deals 22 = .ok (.iconst 1, 1) := by decide +kernel
theorem dX11_deals_23 : decode cX11_deals 23 = .ok (.iadd, 1) := by decide +kernel
theorem dX11_deals_24 : decode cX11_deals 24 = .ok (.iastore, 1) := by decide +kernel
theorem dX11_deals_25 : decode cX11_deals 25 = .ok (.aload_n 0, 1) := by decide +kernel
theorem dX11_deals_26 : decode cX11_deals 26 = .ok (.getfield 73, 3) := by decide +kernel
theorem dX11_deals_29 : decode cX11_deals 29 = .ok (.iload_n 3, 1) := by decide +kernel
theorem dX11_deals_30 : decode cX11_deals 30 = .ok (.iaload, 1) := by decide +kernel
theorem dX11_deals_31 : decode cX11_deals 31 = .ok (.bipush 6, 2) := by decide +kernel
theorem dX11_deals_33 : decode cX11_deals 33 = .ok (.if_icmp .ne 9, 3) := by decide +kernel
theorem dX11_deals_36 : decode cX11_deals 36 = .ok (.iinc 3 (-1), 3) := by decide +kernel
theorem dX11_deals_39 : decode cX11_deals 39 = .ok (.goto (-28), 3) := by decide +kernel
theorem dX11_deals_42 : decode cX11_deals 42 = .ok (.aload_n 0, 1) := by decide +kernel
theorem dX11_deals_43 : decode cX11_deals 43 = .ok (.iload_n 3, 1) := by decide +kernel
theorem dX11_deals_44 : decode cX11_deals 44 = .ok (.invokevirtual 223, 3) := by decide +kernel
theorem dX11_deals_47 : decode cX11_deals 47 = .ok (.ifCond .eq (-36), 3) := by decide +kernel
theorem dX11_deals_50 : decode cX11_deals 50 = .ok (.aload_n 0, 1) := by decide +kernel
theorem dX11_deals_51 : decode cX11_deals 51 = .ok (.aload_n 0, 1) := by decide +kernel
theorem dX11_deals_52 : decode cX11_deals 52 = .ok (.getfield 73, 3) := by decide +kernel
theorem dX11_deals_55 : decode cX11_deals 55 = .ok (.iload_n 3, 1) := by decide +kernel
theorem dX11_deals_56 : decode cX11_deals 56 = .ok (.iaload, 1) := by decide +kernel
theorem dX11_deals_57 : decode cX11_deals 57 = .ok (.aload_n 0, 1) := by decide +kernel
theorem dX11_deals_58 : decode cX11_deals 58 = .ok (.getfield 70, 3) := by decide +kernel
theorem dX11_deals_61 : decode cX11_deals 61 = .ok (.iload_n 3, 1) := by decide +kernel
theorem dX11_deals_62 : decode cX11_deals 62 = .ok (.iaload, 1) := by decide +kernel
theorem dX11_deals_63 : decode cX11_deals 63 = .ok (.invokevirtual 226, 3) := by decide +kernel
theorem dX11_deals_66 : decode cX11_deals 66 = .ok (.ifCond .eq (-55), 3) := by decide +kernel
theorem dX11_deals_69 : decode cX11_deals 69 = .ok (.iload_n 3, 1) := by decide +kernel
theorem dX11_deals_70 : decode cX11_deals 70 = .ok (.iconst 1, 1) := by decide +kernel
theorem dX11_deals_71 : decode cX11_deals 71 = .ok (.iadd, 1) := by decide +kernel
theorem dX11_deals_72 : decode cX11_deals 72 = .ok (.iload_n 1, 1) := by decide +kernel
theorem dX11_deals_73 : decode cX11_deals 73 = .ok (.if_icmp .ge 16, 3) := by decide +kernel
theorem dX11_deals_76 : decode cX11_deals 76 = .ok (.iinc 3 1, 3) := by decide +kernel
theorem dX11_deals_79 : decode cX11_deals 79 = .ok (.aload_n 0, 1) := by decide +kernel
theorem dX11_deals_80 : decode cX11_deals 80 = .ok (.getfield 73, 3) := by decide +kernel
theorem dX11_deals_83 : decode cX11_deals 83 = .ok (.iload_n 3, 1) := by decide +kernel
theorem dX11_deals_84 : decode cX11_deals 84 = .ok (.iconst (-1), 1) := by decide +kernel
theorem dX11_deals_85 : decode cX11_deals 85 = .ok (.iastore, 1) := by decide +kernel
theorem dX11_deals_86 : decode cX11_deals 86 = .ok (.goto (-75), 3) := by decide +kernel
theorem dX11_deals_89 : decode cX11_deals 89 = .ok (.iconst 0, 1) := by decide +kernel
theorem dX11_deals_90 : decode cX11_deals 90 = .ok (.istore 4, 2) := by decide +kernel
theorem dX11_deals_92 : decode cX11_deals 92 = .ok (.iload 4, 2) := by decide +kernel
theorem dX11_deals_94 : decode cX11_deals 94 = .ok (.iload_n 1, 1) := by decide +kernel
theorem dX11_deals_95 : decode cX11_deals 95 = .ok (.if_icmp .ge 27, 3) := by decide +kernel
theorem dX11_deals_98 : decode cX11_deals 98 = .ok (.iload_n 2, 1) := by decide +kernel
theorem dX11_deals_99 : decode cX11_deals 99 = .ok (.ifCond .ne 23, 3) := by decide +kernel
theorem dX11_deals_102 : decode cX11_deals 102 = .ok (.aload_n 0, 1) := by decide +kernel
theorem dX11_deals_103 : decode cX11_deals 103 = .ok (.getfield 76, 3) := by decide +kernel
theorem dX11_deals_106 : decode cX11_deals 106 = .ok (.iload 4, 2) := by decide +kernel
theorem dX11_deals_108 : decode cX11_deals 108 = .ok (.aload_n 0, 1) := by decide +kernel
theorem dX11_deals_109 : decode cX11_deals 109 = .ok (.getfield 73, 3) := by decide +kernel
theorem dX11_deals_112 : decode cX11_deals 112 = .ok (.iload 4, 2) := by decide +kernel
theorem dX11_deals_114 : decode cX11_deals 114 = .ok (.iaload, 1) := by decide +kernel
theorem dX11_deals_115 : decode cX11_deals 115 = .ok (.iastore, 1) := by decide +kernel
theorem dX11_deals_116 : decode cX11_deals 116 = .ok (.iinc 4 1, 3) := by decide +kernel
theorem dX11_deals_119 : decode cX11_deals 119 = .ok (.goto (-27), 3) := by decide +kernel
theorem dX11_deals_122 : decode cX11_deals 122 = .ok (.iinc 2 1, 3) := by decide +kernel
theorem dX11_deals_125 : decode cX11_deals 125 = .ok (.goto (-114), 3) := by decide +kernel
theorem dX11_deals_128 : decode cX11_deals 128 = .ok (.iload_n 2, 1) := by decide +kernel
theorem dX11_deals_129 : decode cX11_deals 129 = .ok (.ireturn, 1) := by decide +kernel
theorem dX11_dealt_0 : decode cX11_dealt 0 = .ok (.iload_n 1, 1) := by decide +kernel
theorem dX11_dealt_1 : decode cX11_dealt 1 = .ok (.iconst 1, 1) := by decide +kernel
theorem dX11_dealt_2 : decode cX11_dealt 2 = .ok (.if_icmp .lt 14, 3) := by decide +kernel
theorem dX11_dealt_5 : decode cX11_dealt 5 = .ok (.iload_n 1, 1) := by decide +kernel
theorem dX11_dealt_6 : decode cX11_dealt 6 = .ok (.aload_n 0, 1) := by decide +kernel
theorem dX11_dealt_7 : decode cX11_dealt 7 = .ok (.getfield 16, 3) := by decide +kernel
theorem dX11_dealt_10 : decode cX11_dealt 10 = .ok (.iconst 3, 1) := by decide +kernel
theorem dX11_dealt_11 : decode cX11_dealt 11 = .ok (.iaload, 1) := by decide +kernel
theorem dX11_dealt_12 : decode cX11_dealt 12 = .ok (.ishr, 1) := by decide +kernel
theorem dX11_dealt_13 : decode cX11_dealt 13 = .ok (.ifCond .eq 6, 3) := by decide +kernel
theorem dX11_dealt_16 : decode cX11_dealt 16 = .ok (.bipush (-10), 2) := by decide +kernel
theorem dX11_dealt_18 : decode cX11_dealt 18 = .ok (.ireturn, 1) := by decide +kernel
theorem dX11_dealt_19 : decode cX11_dealt 19 = .ok (.iconst 0, 1) := by decide +kernel
theorem dX11_dealt_20 : decode cX11_dealt 20 = .ok (.istore_n 3, 1) := by decide +kernel
theorem dX11_dealt_21 : decode cX11_dealt 21 = .ok (.iconst (-1), 1) := by decide +kernel
theorem dX11_dealt_22 : decode cX11_dealt 22 = .ok (.istore 4, 2) := by decide +kernel
theorem dX11_dealt_24 : decode cX11_dealt 24 = .ok (.iconst 0, 1) := by decide +kernel
theorem dX11_dealt_25 : decode cX11_dealt 25 = .ok (.istore 5, 2) := by decide +kernel
theorem dX11_dealt_27 : decode cX11_dealt 27 = .ok (.iload 5, 2) := by decide +kernel
theorem dX11_dealt_29 : decode cX11_dealt 29 = .ok (.aload_n 0, 1) := by decide +kernel
theorem dX11_dealt_30 : decode cX11_dealt 30 = .ok (.getfield 16, 3) := by decide +kernel
theorem dX11_dealt_33 : decode cX11_dealt 33 = .ok (.iconst 3, 1) := by decide +kernel
theorem dX11_dealt_34 : decode cX11_dealt 34 = .ok (.iaload, 1) := by decide +kernel
theorem dX11_dealt_35 : decode cX11_dealt 35 = .ok (.if_icmp .ge 53, 3) := by decide +kernel
theorem dX11_dealt_38 : decode cX11_dealt 38 = .ok (.iload_n 1, 1) := by decide +kernel
theorem dX11_dealt_39 : decode cX11_dealt 39 = .ok (.iload 5, 2) := by decide +kernel
theorem dX11_dealt_41 : decode cX11_dealt 41 = .ok (.ishr, 1) := by decide +kernel
theorem dX11_dealt_42 : decode cX11_dealt 42 = .ok (.iconst 1, 1) := by decide +kernel
theorem dX11_dealt_43 : decode cX11_dealt 43 = .ok (.iand, 1) := by decide +kernel
theorem dX11_dealt_44 : decode cX11_dealt 44 = .ok (.iconst 1, 1) := by decide +kernel
theorem dX11_dealt_45 : decode cX11_dealt 45 = .ok (.if_icmp .ne 37, 3) := by decide +kernel
theorem dX11_dealt_48 : decode cX11_dealt 48 = .ok (.iload_n 3, 1) := by decide +kernel
theorem dX11_dealt_49 : decode cX11_dealt 49 = .ok (.bipush 6, 2) := by decide +kernel
theorem dX11_dealt_51 : decode cX11_dealt 51 = .ok (.if_icmp .ne 6, 3) := by decide +kernel
theorem dX11_dealt_54 : decode cX11_dealt 54 = .ok (.bipush (-10), 2) := by decide +kernel
theorem dX11_dealt_56 : decode cX11_dealt 56 = .ok (.ireturn, 1) := by decide +kernel
theorem dX11_dealt_57 : decode cX11_dealt 57 = .ok (.iload 5, 2) := by decide +kernel
theorem dX11_dealt_59 : decode cX11_dealt 59 = .ok (.iload_n 2, 1) := by decide +kernel
theorem dX11_dealt_60 : decode cX11_dealt 60 = .ok (.if_icmp .ne 7, 3) := by decide +kernel
theorem dX11_dealt_63 : decode cX11_dealt 63 = .ok (.iload_n 3, 1) := by decide +kernel
theorem dX11_dealt_64 : decode cX11_dealt 64 = .ok (.goto 5, 3) := by decide +kernel
theorem dX11_dealt_67 : decode cX11_dealt 67 = .ok (.iload 4, 2) := by decide +kernel
theorem dX11_dealt_69 : decode cX11_dealt 69 = .ok (.istore 4, 2) := by decide +kernel
theorem dX11_dealt_71 : decode cX11_dealt 71 = .ok (.aload_n 0, 1) := by decide +kernel
theorem dX11_dealt_72 : decode cX11_dealt 72 = .ok (.getfield 70, 3) := by decide +kernel
theorem dX11_dealt_75 : decode cX11_dealt 75 = .ok (.iload_n 3, 1) := by decide +kernel
theorem dX11_dealt_76 : decode cX11_dealt 76 = .ok (.iload 5, 2) := by decide +kernel
theorem dX11_dealt_78 : decode cX11_dealt 78 = .ok (.iastore, 1) := by decide +kernel
theorem dX11_dealt_79 : decode cX11_dealt 79 = .ok (.iinc 3 1, 3) := by decide +kernel
theorem dX11_dealt_82 : decode cX11_dealt 82 = .ok (.iinc 5 1, 3) := by decide +kernel
theorem dX11_dealt_85 : decode cX11_dealt 85 = .ok (.goto (-58), 3) := by decide +kernel
theorem dX11_dealt_88 : decode cX11_dealt 88 = .ok (.iload_n 2, 1) := by decide +kernel
theorem dX11_dealt_89 : decode cX11_dealt 89 = .ok (.iconst (-1), 1) := by decide +kernel
theorem dX11_dealt_90 : decode cX11_dealt 90 = .ok (.if_icmp .eq 12, 3) := by decide +kernel
theorem dX11_dealt_93 : decode cX11_dealt 93 = .ok (.iload 4, 2) := by decide +kernel
theorem dX11_dealt_95 : decode cX11_dealt 95 = .ok (.iconst (-1), 1) := by decide +kernel
theorem dX11_dealt_96 : decode cX11_dealt 96 = .ok (.if_icmp .ne 6, 3) := by decide +kernel
theorem dX11_dealt_99 : decode cX11_dealt 99 = .ok (.bipush (-10), 2) := by decide +kernel
theorem dX11_dealt_101 : decode cX11_dealt 101 = .ok (.ireturn, 1) := by decide +kernel
theorem dX11_dealt_102 : decode cX11_dealt 102 = .ok (.aload_n 0, 1) := by decide +kernel
theorem dX11_dealt_103 : decode cX11_dealt 103 = .ok (.iload_n 3, 1) := by decide +kernel
theorem dX11_dealt_104 : decode cX11_dealt 104 = .ok (.invokevirtual 229, 3) := by decide +kernel
theorem dX11_dealt_107 : decode cX11_dealt 107 = .ok (.istore 5, 2) := by decide +kernel
theorem dX11_dealt_109 : decode cX11_dealt 109 = .ok (.iload_n 2, 1) := by decide +kernel
theorem dX11_dealt_110 : decode cX11_dealt 110 = .ok (.iconst (-1), 1) := by decide +kernel
theorem dX11_dealt_111 : decode cX11_dealt 111 = .ok (.if_icmp .ne 8, 3) := by decide +kernel
theorem dX11_dealt_114 : decode cX11_dealt 114 = .ok (.iload 5, 2) := by decide +kernel
theorem dX11_dealt_116 : decode cX11_dealt 116 = .ok (.goto 19, 3) := by decide +kernel
theorem dX11_dealt_119 : decode cX11_dealt 119 = .ok (.iload 5, 2) := by decide +kernel
theorem dX11_dealt_121 : decode cX11_dealt 121 = .ok (.ifCond .ne 7, 3) := by decide +kernel
theorem dX11_dealt_124 : decode cX11_dealt 124 = .ok (.iconst (-1), 1) := by decide +kernel
theorem dX11_dealt_125 : decode cX11_dealt 125 = .ok (.goto 10, 3) := by decide +kernel
theorem dX11_dealt_128 : decode cX11_dealt 128 = .ok (.aload_n 0, 1) := by decide +kernel
theorem dX11_dealt_129 : decode cX11_dealt 129 = .ok (.getfield 76, 3) := by decide +kernel
theorem dX11_dealt_132 : decode cX11_dealt 132 = .ok (.iload 4, 2) := by decide +kernel
theorem dX11_dealt_134 : decode cX11_dealt 134 = .ok (.iaload, 1) := by decide +kernel
theorem dX11_dealt_135 : decode cX11_dealt 135 = .ok (.ireturn, 1) := by decide +kernel
theorem dX11_bounds_0 : decode cX11_bounds 0 = .ok (.iload_n 1, 1) := by decide +kernel
theorem dX11_bounds_1 : decode cX11_bounds 1 = .ok (.i2l, 1) := by decide +kernel
theorem dX11_bounds_2 : decode cX11_bounds 2 = .ok (.lconst 1, 1) := by decide +kernel
theorem dX11_bounds_3 : decode cX11_bounds 3 = .ok (.ldc2_w 232, 3) := by decide +kernel
theorem dX11_bounds_6 : decode cX11_bounds 6 = .ok (.invokestatic 120, 3) := by decide +kernel
theorem dX11_bounds_9 : decode cX11_bounds 9 = .ok (.ifCond .eq 36, 3) := by decide +kernel
theorem dX11_bounds_12 : decode cX11_bounds 12 = .ok (.iload_n 2, 1) := by decide +kernel
theorem dX11_bounds_13 : decode cX11_bounds 13 = .ok (.i2l, 1) := by decide +kernel
theorem dX11_bounds_14 : decode cX11_bounds 14 = .ok (.lconst 0, 1) := by decide +kernel
theorem dX11_bounds_15 : decode cX11_bounds 15 = .ok (.iload_n 1, 1) := by decide +kernel
theorem dX11_bounds_16 : decode cX11_bounds 16 = .ok (.i2l, 1) := by decide +kernel
theorem dX11_bounds_17 : decode cX11_bounds 17 = .ok (.invokestatic 120, 3) := by decide +kernel
theorem dX11_bounds_20 : decode cX11_bounds 20 = .ok (.ifCond .eq 25, 3) := by decide +kernel
theorem dX11_bounds_23 : decode cX11_bounds 23 = .ok (.iload_n 3, 1) := by decide +kernel
theorem dX11_bounds_24 : decode cX11_bounds 24 = .ok (.i2l, 1) := by decide +kernel
theorem dX11_bounds_25 : decode cX11_bounds 25 = .ok (.lconst 0, 1) := by decide +kernel
theorem dX11_bounds_26 : decode cX11_bounds 26 = .ok (.iload_n 2, 1) := by decide +kernel
theorem dX11_bounds_27 : decode cX11_bounds 27 = .ok (.i2l, 1) := by decide +kernel
theorem dX11_bounds_28 : decode cX11_bounds 28 = .ok (.invokestatic 120, 3) := by decide +kernel
theorem dX11_bounds_31 : decode cX11_bounds 31 = .ok (.ifCond .eq 14, 3) := by decide +kernel
theorem dX11_bounds_34 : decode cX11_bounds 34 = .ok (.iload 4, 2) := by decide +kernel
theorem dX11_bounds_36 : decode cX11_bounds 36 = .ok (.i2l, 1) := by decide +kernel
theorem dX11_bounds_37 : decode cX11_bounds 37 = .ok (.lconst 0, 1) := by decide +kernel
theorem dX11_bounds_38 : decode cX11_bounds 38 = .ok (.lconst 1, 1) := by decide +kernel
theorem dX11_bounds_39 : decode cX11_bounds 39 = .ok (.invokestatic 120, 3) := by decide +kernel
theorem dX11_bounds_42 : decode cX11_bounds 42 = .ok (.ifCond .ne 6, 3) := by decide +kernel
theorem dX11_bounds_45 : decode cX11_bounds 45 = .ok (.bipush (-2), 2) := by decide +kernel
theorem dX11_bounds_47 : decode cX11_bounds 47 = .ok (.ireturn, 1) := by decide +kernel
theorem dX11_bounds_48 : decode cX11_bounds 48 = .ok (.aload_n 0, 1) := by decide +kernel
theorem dX11_bounds_49 : decode cX11_bounds 49 = .ok (.iload 4, 2) := by decide +kernel
theorem dX11_bounds_51 : decode cX11_bounds 51 = .ok (.ifCond .ne 8, 3) := by decide +kernel
theorem dX11_bounds_54 : decode cX11_bounds 54 = .ok (.iload_n 3, 1) := by decide +kernel
theorem dX11_bounds_55 : decode cX11_bounds 55 = .ok (.i2l, 1) := by decide +kernel
theorem dX11_bounds_56 : decode cX11_bounds 56 = .ok (.goto 9, 3) := by decide +kernel
theorem dX11_bounds_59 : decode cX11_bounds 59 = .ok (.iload_n 3, 1) := by decide +kernel
theorem dX11_bounds_60 : decode cX11_bounds 60 = .ok (.iload_n 1, 1) := by decide +kernel
theorem dX11_bounds_61 : decode cX11_bounds 61 = .ok (.iadd, 1) := by decide +kernel
theorem dX11_bounds_62 : decode cX11_bounds 62 = .ok (.iload_n 2, 1) := by decide +kernel
theorem dX11_bounds_63 : decode cX11_bounds 63 = .ok (.isub, 1) := by decide +kernel
theorem dX11_bounds_64 : decode cX11_bounds 64 = .ok (.i2l, 1) := by decide +kernel
theorem dX11_bounds_65 : decode cX11_bounds 65 = .ok (.iload_n 1, 1) := by decide +kernel
theorem dX11_bounds_66 : decode cX11_bounds 66 = .ok (.i2l, 1) := by decide +kernel
theorem dX11_bounds_67 : decode cX11_bounds 67 = .ok (.invokevirtual 163, 3) := by decide +kernel
theorem dX11_bounds_70 : decode cX11_bounds 70 = .ok (.ireturn, 1) := by decide +kernel
theorem dX11_isShare_0 : decode cX11_isShare 0 = .ok (.iload_n 0, 1) := by decide +kernel
theorem dX11_isShare_1 : decode cX11_isShare 1 = .ok (.i2l, 1) := by decide +kernel
theorem dX11_isShare_2 : decode cX11_isShare 2 = .ok (.lconst 0, 1) := by decide +kernel
theorem dX11_isShare_3 : decode cX11_isShare 3 = .ok (.ldc2_w 234, 3) := by decide +kernel
theorem dX11_isShare_6 : decode cX11_isShare 6 = .ok (.invokestatic 120, 3) := by decide +kernel
theorem dX11_isShare_9 : decode cX11_isShare 9 = .ok (.ireturn, 1) := by decide +kernel
theorem dX11_question_0 : decode cX11_question 0 = .ok (.iload_n 1, 1) := by decide +kernel
theorem dX11_question_1 : decode cX11_question 1 = .ok (.i2l, 1) := by decide +kernel
theorem dX11_question_2 : decode cX11_question 2 = .ok (.lconst 1, 1) := by decide +kernel
theorem dX11_question_3 : decode cX11_question 3 = .ok (.ldc2_w 236, 3) := by decide +kernel
theorem dX11_question_6 : decode cX11_question 6 = .ok (.invokestatic 120, 3) := by decide +kernel
theorem dX11_question_9 : decode cX11_question 9 = .ok (.ifCond .eq 33, 3) := by decide +kernel
theorem dX11_question_12 : decode cX11_question 12 = .ok (.iload_n 2, 1) := by decide +kernel
theorem dX11_question_13 : decode cX11_question 13 = .ok (.invokestatic 238, 3) := by decide +kernel
theorem dX11_question_16 : decode cX11_question 16 = .ok (.ifCond .eq 26, 3) := by decide +kernel
theorem dX11_question_19 : decode cX11_question 19 = .ok (.iload_n 3, 1) := by decide +kernel
theorem dX11_question_20 : decode cX11_question 20 = .ok (.invokestatic 238, 3) := by decide +kernel
theorem dX11_question_23 : decode cX11_question 23 = .ok (.ifCond .eq 19, 3) := by decide +kernel
theorem dX11_question_26 : decode cX11_question 26 = .ok (.iload 4, 2) := by decide +kernel
theorem dX11_question_28 : decode cX11_question 28 = .ok (.invokestatic 238, 3) := by decide +kernel
theorem dX11_question_31 : decode cX11_question 31 = .ok (.ifCond .eq 11, 3) := by decide +kernel
theorem dX11_question_34 : decode cX11_question 34 = .ok (.iload 5, 2) := by decide +kernel
theorem dX11_question_36 : decode cX11_question 36 = .ok (.invokestatic 238, 3) := by decide +kernel
theorem dX11_question_39 : decode cX11_question 39 = .ok (.ifCond .ne 6, 3) := by decide +kernel
theorem dX11_question_42 : decode cX11_question 42 = .ok (.bipush (-2), 2) := by decide +kernel
theorem dX11_question_44 : decode cX11_question 44 = .ok (.ireturn, 1) := by decide +kernel
theorem dX11_question_45 : decode cX11_question 45 = .ok (.aload_n 0, 1) := by decide +kernel
theorem dX11_question_46 : decode cX11_question 46 = .ok (.getfield 16, 3) := by decide +kernel
theorem dX11_question_49 : decode cX11_question 49 = .ok (.iconst 5, 1) := by decide +kernel
theorem dX11_question_50 : decode cX11_question 50 = .ok (.iaload, 1) := by decide +kernel
theorem dX11_question_51 : decode cX11_question 51 = .ok (.bipush 6, 2) := by decide +kernel
theorem dX11_question_53 : decode cX11_question 53 = .ok (.if_icmp .ne 6, 3) := by decide +kernel
theorem dX11_question_56 : decode cX11_question 56 = .ok (.bipush (-4), 2) := by decide +kernel
theorem dX11_question_58 : decode cX11_question 58 = .ok (.ireturn, 1) := by decide +kernel
theorem dX11_question_59 : decode cX11_question 59 = .ok (.aload_n 0, 1) := by decide +kernel
theorem dX11_question_60 : decode cX11_question 60 = .ok (.getfield 16, 3) := by decide +kernel
theorem dX11_question_63 : decode cX11_question 63 = .ok (.iconst 5, 1) := by decide +kernel
theorem dX11_question_64 : decode cX11_question 64 = .ok (.iaload, 1) := by decide +kernel
theorem dX11_question_65 : decode cX11_question 65 = .ok (.istore 6, 2) := by decide +kernel
theorem dX11_question_67 : decode cX11_question 67 = .ok (.aload_n 0, 1) := by decide +kernel
theorem dX11_question_68 : decode cX11_question 68 = .ok (.getfield 79, 3) := by decide +kernel
theorem dX11_question_71 : decode cX11_question 71 = .ok (.iload 6, 2) := by decide +kernel
theorem dX11_question_73 : decode cX11_question 73 = .ok (.iload_n 1, 1) := by decide +kernel
theorem dX11_question_74 : decode cX11_question 74 = .ok (.iastore, 1) := by decide +kernel
theorem dX11_question_75 : decode cX11_question 75 = .ok (.aload_n 0, 1) := by decide +kernel
theorem dX11_question_76 : decode cX11_question 76 = .ok (.getfield 82, 3) := by decide +kernel
theorem dX11_question_79 : decode cX11_question 79 = .ok (.iconst 4, 1) := by decide +kernel
theorem dX11_question_80 : decode cX11_question 80 = .ok (.iload 6, 2) := by decide +kernel
theorem dX11_question_82 : decode cX11_question 82 = .ok (.imul, 1) := by decide +kernel
theorem dX11_question_83 : decode cX11_question 83 = .ok (.iload_n 2, 1) := by decide +kernel
theorem dX11_question_84 : decode cX11_question 84 = .ok (.iastore, 1) := by decide +kernel
theorem dX11_question_85 : decode cX11_question 85 = .ok (.aload_n 0, 1) := by decide +kernel
theorem dX11_question_86 : decode cX11_question 86 = .ok (.getfield 82, 3) := by decide +kernel
theorem dX11_question_89 : decode cX11_question 89 = .ok (.iconst 4, 1) := by decide +kernel
theorem dX11_question_90 : decode cX11_question 90 = .ok (.iload 6, 2) := by decide +kernel
theorem dX11_question_92 : decode cX11_question 92 = .ok (.imul, 1) := by decide +kernel
theorem dX11_question_93 : decode cX11_question 93 = .ok (.iconst 1, 1) := by decide +kernel
theorem dX11_question_94 : decode cX11_question 94 = .ok (.iadd, 1) := by decide +kernel
theorem dX11_question_95 : decode cX11_question 95 = .ok (.iload_n 3, 1) := by decide +kernel
theorem dX11_question_96 : decode cX11_question 96 = .ok (.iastore, 1) := by decide +kernel
theorem dX11_question_97 : decode cX11_question 97 = .ok (.aload_n 0, 1) := by decide +kernel
theorem dX11_question_98 : decode cX11_question 98 = .ok (.getfield 82, 3) := by decide +kernel
theorem dX11_question_101 : decode cX11_question 101 = .ok (.iconst 4, 1) := by decide +kernel
theorem dX11_question_102 : decode cX11_question 102 = .ok (.iload 6, 2) := by decide +kernel
theorem dX11_question_104 : decode cX11_question 104 = .ok (.imul, 1) := by decide +kernel
theorem dX11_question_105 : decode cX11_question 105 = .ok (.iconst 2, 1) := by decide +kernel
theorem dX11_question_106 : decode cX11_question 106 = .ok (.iadd, 1) := by decide +kernel
theorem dX11_question_107 : decode cX11_question 107 = .ok (.iload 4, 2) := by decide +kernel
theorem dX11_question_109 : decode cX11_question 109 = .ok (.iastore, 1) := by decide +kernel
theorem dX11_question_110 : decode cX11_question 110 = .ok (.aload_n 0, 1) := by decide +kernel
theorem dX11_question_111 : decode cX11_question 111 = .ok (.getfield 82, 3) := by decide +kernel
theorem dX11_question_114 : decode cX11_question 114 = .ok (.iconst 4, 1) := by decide +kernel
theorem dX11_question_115 : decode cX11_question 115 = .ok (.iload 6, 2) := by decide +kernel
theorem dX11_question_117 : decode cX11_question 117 = .ok (.imul, 1) := by decide +kernel
theorem dX11_question_118 : decode cX11_question 118 = .ok (.iconst 3, 1) := by decide +kernel
theorem dX11_question_119 : decode cX11_question 119 = .ok (.iadd, 1) := by decide +kernel
theorem dX11_question_120 : decode cX11_question 120 = .ok (.iload 5, 2) := by decide +kernel
theorem dX11_question_122 : decode cX11_question 122 = .ok (.iastore, 1) := by decide +kernel
theorem dX11_question_123 : decode cX11_question 123 = .ok (.aload_n 0, 1) := by decide +kernel
theorem dX11_question_124 : decode cX11_question 124 = .ok (.iconst 5, 1) := by decide +kernel
theorem dX11_question_125 : decode cX11_question 125 = .ok (.invokevirtual 128, 3) := by decide +kernel
theorem dX11_question_128 : decode cX11_question 128 = .ok (.ireturn, 1) := by decide +kernel
theorem dX11_tellsOf_0 : decode cX11_tellsOf 0 = .ok (.lconst 0, 1) := by decide +kernel
theorem dX11_tellsOf_1 : decode cX11_tellsOf 1 = .ok (.lstore_n 2, 1) := by decide +kernel
theorem dX11_tellsOf_2 : decode cX11_tellsOf 2 = .ok (.iconst 0, 1) := by decide +kernel
theorem dX11_tellsOf_3 : decode cX11_tellsOf 3 = .ok (.istore 4, 2) := by decide +kernel
theorem dX11_tellsOf_5 : decode cX11_tellsOf 5 = .ok (.iload 4, 2) := by decide +kernel
theorem dX11_tellsOf_7 : decode cX11_tellsOf 7 = .ok (.iconst 1, 1) := by decide +kernel
theorem dX11_tellsOf_8 : decode cX11_tellsOf 8 = .ok (.aload_n 0, 1) := by decide +kernel
theorem dX11_tellsOf_9 : decode cX11_tellsOf 9 = .ok (.getfield 16, 3) := by decide +kernel
theorem dX11_tellsOf_12 : decode cX11_tellsOf 12 = .ok (.iconst 5, 1) := by decide +kernel
theorem dX11_tellsOf_13 : decode cX11_tellsOf 13 = .ok (.iaload, 1) := by decide +kernel
theorem dX11_tellsOf_14 : decode cX11_tellsOf 14 = .ok (.ishl, 1) := by decide +kernel
theorem dX11_tellsOf_15 : decode cX11_tellsOf 15 = .ok (.if_icmp .ge 165, 3) := by decide +kernel
theorem dX11_tellsOf_18 : decode cX11_tellsOf 18 = .ok (.lconst 0, 1) := by decide +kernel
theorem dX11_tellsOf_19 : decode cX11_tellsOf 19 = .ok (.lstore 5, 2) := by decide +kernel
theorem dX11_tellsOf_21 : decode cX11_tellsOf 21 = .ok (.iconst 0, 1) := by decide +kernel
theorem dX11_tellsOf_22 : decode cX11_tellsOf 22 = .ok (.istore 7, 2) := by decide +kernel
theorem dX11_tellsOf_24 : decode cX11_tellsOf 24 = .ok (.iload 7, 2) := by decide +kernel
theorem dX11_tellsOf_26 : decode cX11_tellsOf 26 = .ok (.iconst 4, 1) := by decide +kernel
theorem dX11_tellsOf_27 : decode cX11_tellsOf 27 = .ok (.if_icmp .ge 142, 3) := by decide +kernel
theorem dX11_tellsOf_30 : decode cX11_tellsOf 30 = .ok (.aload_n 0, 1) := by decide +kernel
theorem dX11_tellsOf_31 : decode cX11_tellsOf 31 = .ok (.getfield 49, 3) := by decide +kernel
theorem dX11_tellsOf_34 : decode cX11_tellsOf 34 = .ok (.iload 7, 2) := by decide +kernel
theorem dX11_tellsOf_36 : decode cX11_tellsOf 36 = .ok (.iaload, 1) := by decide +kernel
theorem dX11_tellsOf_37 : decode cX11_tellsOf 37 = .ok (.i2l, 1) := by decide +kernel
theorem dX11_tellsOf_38 : decode cX11_tellsOf 38 = .ok (.lstore 8, 2) := by decide +kernel
theorem dX11_tellsOf_40 : decode cX11_tellsOf 40 = .ok (.iconst 0, 1) := by decide +kernel
theorem dX11_tellsOf_41 : decode cX11_tellsOf 41 = .ok (.istore 10, 2) := by decide +kernel
theorem dX11_tellsOf_43 : decode cX11_tellsOf 43 = .ok (.iload 10, 2) := by decide +kernel
theorem dX11_tellsOf_45 : decode cX11_tellsOf 45 = .ok (.aload_n 0, 1) := by decide +kernel
theorem dX11_tellsOf_46 : decode cX11_tellsOf 46 = .ok (.getfield 16, 3) := by decide +kernel
theorem dX11_tellsOf_49 : decode cX11_tellsOf 49 = .ok (.iconst 5, 1) := by decide +kernel
theorem dX11_tellsOf_50 : decode cX11_tellsOf 50 = .ok (.iaload, 1) := by decide +kernel
theorem dX11_tellsOf_51 : decode cX11_tellsOf 51 = .ok (.if_icmp .ge 95, 3) := by decide +kernel
theorem dX11_tellsOf_54 : decode cX11_tellsOf 54 = .ok (.iload 4, 2) := by decide +kernel
theorem dX11_tellsOf_56 : decode cX11_tellsOf 56 = .ok (.iload 10, 2) := by decide +kernel
theorem dX11_tellsOf_58 : decode cX11_tellsOf 58 = .ok (.ishr, 1) := by decide +kernel
theorem dX11_tellsOf_59 : decode cX11_tellsOf 59 = .ok (.iconst 1, 1) := by decide +kernel
theorem dX11_tellsOf_60 : decode cX11_tellsOf 60 = .ok (.iand, 1) := by decide +kernel
theorem dX11_tellsOf_61 : decode cX11_tellsOf 61 = .ok (.iconst 1, 1) := by decide +kernel
theorem dX11_tellsOf_62 : decode cX11_tellsOf 62 = .ok (.if_icmp .ne 7, 3) := by decide +kernel
theorem dX11_tellsOf_65 : decode cX11_tellsOf 65 = .ok (.iconst 1, 1) := by decide +kernel
theorem dX11_tellsOf_66 : decode cX11_tellsOf 66 = .ok (.goto 4, 3) := by decide +kernel
theorem dX11_tellsOf_69 : decode cX11_tellsOf 69 = .ok (.iconst 0, 1) := by decide +kernel
theorem dX11_tellsOf_70 : decode cX11_tellsOf 70 = .ok (.istore 11, 2) := by decide +kernel
theorem dX11_tellsOf_72 : decode cX11_tellsOf 72 = .ok (.iload_n 1, 1) := by decide +kernel
theorem dX11_tellsOf_73 : decode cX11_tellsOf 73 = .ok (.iload 10, 2) := by decide +kernel
theorem dX11_tellsOf_75 : decode cX11_tellsOf 75 = .ok (.ishr, 1) := by decide +kernel
theorem dX11_tellsOf_76 : decode cX11_tellsOf 76 = .ok (.iconst 1, 1) := by decide +kernel
theorem dX11_tellsOf_77 : decode cX11_tellsOf 77 = .ok (.iand, 1) := by decide +kernel
theorem dX11_tellsOf_78 : decode cX11_tellsOf 78 = .ok (.ifCond .ne 17, 3) := by decide +kernel
theorem dX11_tellsOf_81 : decode cX11_tellsOf 81 = .ok (.iload 11, 2) := by decide +kernel
theorem dX11_tellsOf_83 : decode cX11_tellsOf 83 = .ok (.ifCond .eq 8, 3) := by decide +kernel
theorem dX11_tellsOf_86 : decode cX11_tellsOf 86 = .ok (.bipush 100, 2) := by decide +kernel
theorem dX11_tellsOf_88 : decode cX11_tellsOf 88 = .ok (.goto 42, 3) := by decide +kernel
theorem dX11_tellsOf_91 : decode cX11_tellsOf 91 = .ok (.iconst 0, 1) := by decide +kernel
theorem dX11_tellsOf_92 : decode cX11_tellsOf 92 = .ok (.goto 38, 3) := by decide +kernel
theorem dX11_tellsOf_95 : decode cX11_tellsOf 95 = .ok (.iload 11, 2) := by decide +kernel
theorem dX11_tellsOf_97 : decode cX11_tellsOf 97 = .ok (.ifCond .eq 18, 3) := by decide +kernel
theorem dX11_tellsOf_100 : decode cX11_tellsOf 100 = .ok (.aload_n 0, 1) := by decide +kernel
theorem dX11_tellsOf_101 : decode cX11_tellsOf 101 = .ok (.getfield 82, 3) := by decide +kernel
theorem dX11_tellsOf_104 : decode cX11_tellsOf 104 = .ok (.iconst 4, 1) := by decide +kernel
theorem dX11_tellsOf_105 : decode cX11_tellsOf 105 = .ok (.iload 10, 2) := by decide +kernel
theorem dX11_tellsOf_107 : decode cX11_tellsOf 107 = .ok (.imul, 1) := by decide +kernel
theorem dX11_tellsOf_108 : decode cX11_tellsOf 108 = .ok (.iload 7, 2) := by decide +kernel
theorem dX11_tellsOf_110 : decode cX11_tellsOf 110 = .ok (.iadd, 1) := by decide +kernel
theorem dX11_tellsOf_111 : decode cX11_tellsOf 111 = .ok (.iaload, 1) := by decide +kernel
theorem dX11_tellsOf_112 : decode cX11_tellsOf 112 = .ok (.goto 18, 3) := by decide +kernel
theorem dX11_tellsOf_115 : decode cX11_tellsOf 115 = .ok (.bipush 100, 2) := by decide +kernel
theorem dX11_tellsOf_117 : decode cX11_tellsOf 117 = .ok (.aload_n 0, 1) := by decide +kernel
theorem dX11_tellsOf_118 : decode cX11_tellsOf 118 = .ok (.getfield 82, 3) := by decide +kernel
theorem dX11_tellsOf_121 : decode cX11_tellsOf 121 = .ok (.iconst 4, 1) := by decide +kernel
theorem dX11_tellsOf_122 : decode cX11_tellsOf 122 = .ok (.iload 10, 2) := by decide +kernel
theorem dX11_tellsOf_124 : decode cX11_tellsOf 124 = .ok (.imul, 1) := by decide +kernel
theorem dX11_tellsOf_125 : decode cX11_tellsOf 125 = .ok (.iload 7, 2) := by decide +kernel
theorem dX11_tellsOf_127 : decode cX11_tellsOf 127 = .ok (.iadd, 1) := by decide +kernel
theorem dX11_tellsOf_128 : decode cX11_tellsOf 128 = .ok (.iaload, 1) := by decide +kernel
theorem dX11_tellsOf_129 : decode cX11_tellsOf 129 = .ok (.isub, 1) := by decide +kernel
theorem dX11_tellsOf_130 : decode cX11_tellsOf 130 = .ok (.istore 12, 2) := by decide +kernel
theorem dX11_tellsOf_132 : decode cX11_tellsOf 132 = .ok (.lload 8, 2) := by decide +kernel
theorem dX11_tellsOf_134 : decode cX11_tellsOf 134 = .ok (.iload 12, 2) := by decide +kernel
theorem dX11_tellsOf_136 : decode cX11_tellsOf 136 = .ok (.i2l, 1) := by decide +kernel
theorem dX11_tellsOf_137 : decode cX11_tellsOf 137 = .ok (.lmul, 1) := by decide +kernel
theorem dX11_tellsOf_138 : decode cX11_tellsOf 138 = .ok (.lstore 8, 2) := by decide +kernel
theorem dX11_tellsOf_140 : decode cX11_tellsOf 140 = .ok (.iinc 10 1, 3) := by decide +kernel
theorem dX11_tellsOf_143 : decode cX11_tellsOf 143 = .ok (.goto (-100), 3) := by decide +kernel
theorem dX11_tellsOf_146 : decode cX11_tellsOf 146 = .ok (.lload 8, 2) := by decide +kernel
theorem dX11_tellsOf_148 : decode cX11_tellsOf 148 = .ok (.lload 5, 2) := by decide +kernel
theorem dX11_tellsOf_150 : decode cX11_tellsOf 150 = .ok (.lcmp, 1) := by decide +kernel
theorem dX11_tellsOf_151 : decode cX11_tellsOf 151 = .ok (.ifCond .le 8, 3) := by decide +kernel
theorem dX11_tellsOf_154 : decode cX11_tellsOf 154 = .ok (.lload 8, 2) := by decide +kernel
theorem dX11_tellsOf_156 : decode cX11_tellsOf 156 = .ok (.goto 5, 3) := by decide +kernel
theorem dX11_tellsOf_159 : decode cX11_tellsOf 159 = .ok (.lload 5, 2) := by decide +kernel
theorem dX11_tellsOf_161 : decode cX11_tellsOf 161 = .ok (.lstore 5, 2) := by decide +kernel
theorem dX11_tellsOf_163 : decode cX11_tellsOf 163 = .ok (.iinc 7 1, 3) := by decide +kernel
theorem dX11_tellsOf_166 : decode cX11_tellsOf 166 = .ok (.goto (-142), 3) := by decide +kernel
theorem dX11_tellsOf_169 : decode cX11_tellsOf 169 = .ok (.lload_n 2, 1) := by decide +kernel
theorem dX11_tellsOf_170 : decode cX11_tellsOf 170 = .ok (.lload 5, 2) := by decide +kernel
theorem dX11_tellsOf_172 : decode cX11_tellsOf 172 = .ok (.ladd, 1) := by decide +kernel
theorem dX11_tellsOf_173 : decode cX11_tellsOf 173 = .ok (.lstore_n 2, 1) := by decide +kernel
theorem dX11_tellsOf_174 : decode cX11_tellsOf 174 = .ok (.iinc 4 1, 3) := by decide +kernel
theorem dX11_tellsOf_177 : decode cX11_tellsOf 177 = .ok (.goto (-172), 3) := by decide +kernel
theorem dX11_tellsOf_180 : decode cX11_tellsOf 180 = .ok (.lload_n 2, 1) := by decide +kernel
theorem dX11_tellsOf_181 : decode cX11_tellsOf 181 = .ok (.lreturn, 1) := by decide +kernel
theorem dX11_wholeOf_0 : decode cX11_wholeOf 0 = .ok (.aload_n 0, 1) := by decide +kernel
theorem dX11_wholeOf_1 : decode cX11_wholeOf 1 = .ok (.getfield 49, 3) := by decide +kernel
theorem dX11_wholeOf_4 : decode cX11_wholeOf 4 = .ok (.iconst 0, 1) := by decide +kernel
theorem dX11_wholeOf_5 : decode cX11_wholeOf 5 = .ok (.iaload, 1) := by decide +kernel
theorem dX11_wholeOf_6 : decode cX11_wholeOf 6 = .ok (.aload_n 0, 1) := by decide +kernel
theorem dX11_wholeOf_7 : decode cX11_wholeOf 7 = .ok (.getfield 49, 3) := by decide +kernel
theorem dX11_wholeOf_10 : decode cX11_wholeOf 10 = .ok (.iconst 1, 1) := by decide +kernel
theorem dX11_wholeOf_11 : decode cX11_wholeOf 11 = .ok (.iaload, 1) := by decide +kernel
theorem dX11_wholeOf_12 : decode cX11_wholeOf 12 = .ok (.iadd, 1) := by decide +kernel
theorem dX11_wholeOf_13 : decode cX11_wholeOf 13 = .ok (.aload_n 0, 1) := by decide +kernel
theorem dX11_wholeOf_14 : decode cX11_wholeOf 14 = .ok (.getfield 49, 3) := by decide +kernel
theorem dX11_wholeOf_17 : decode cX11_wholeOf 17 = .ok (.iconst 2, 1) := by decide +kernel
theorem dX11_wholeOf_18 : decode cX11_wholeOf 18 = .ok (.iaload, 1) := by decide +kernel
theorem dX11_wholeOf_19 : decode cX11_wholeOf 19 = .ok (.iadd, 1) := by decide +kernel
theorem dX11_wholeOf_20 : decode cX11_wholeOf 20 = .ok (.aload_n 0, 1) := by decide +kernel
theorem dX11_wholeOf_21 : decode cX11_wholeOf 21 = .ok (.getfield 49, 3) := by decide +kernel
theorem dX11_wholeOf_24 : decode cX11_wholeOf 24 = .ok (.iconst 3, 1) := by decide +kernel
theorem dX11_wholeOf_25 : decode cX11_wholeOf 25 = .ok (.iaload, 1) := by decide +kernel
theorem dX11_wholeOf_26 : decode cX11_wholeOf 26 = .ok (.iadd, 1) := by decide +kernel
theorem dX11_wholeOf_27 : decode cX11_wholeOf 27 = .ok (.i2l, 1) := by decide +kernel
theorem dX11_wholeOf_28 : decode cX11_wholeOf 28 = .ok (.lstore_n 1, 1) := by decide +kernel
theorem dX11_wholeOf_29 : decode cX11_wholeOf 29 = .ok (.iconst 0, 1) := by decide +kernel
theorem dX11_wholeOf_30 : decode cX11_wholeOf 30 = .ok (.istore_n 3, 1) := by decide +kernel
theorem dX11_wholeOf_31 : decode cX11_wholeOf 31 = .ok (.iload_n 3, 1) := by decide +kernel
theorem dX11_wholeOf_32 : decode cX11_wholeOf 32 = .ok (.aload_n 0, 1) := by decide +kernel
theorem dX11_wholeOf_33 : decode cX11_wholeOf 33 = .ok (.getfield 16, 3) := by decide +kernel
theorem dX11_wholeOf_36 : decode cX11_wholeOf 36 = .ok (.iconst 5, 1) := by decide +kernel
theorem dX11_wholeOf_37 : decode cX11_wholeOf 37 = .ok (.iaload, 1) := by decide +kernel
theorem dX11_wholeOf_38 : decode cX11_wholeOf 38 = .ok (.if_icmp .ge 15, 3) := by decide +kernel
theorem dX11_wholeOf_41 : decode cX11_wholeOf 41 = .ok (.lload_n 1, 1) := by decide +kernel
theorem dX11_wholeOf_42 : decode cX11_wholeOf 42 = .ok (.ldc2_w 234, 3) := by decide +kernel
theorem dX11_wholeOf_45 : decode cX11_wholeOf 45 = .ok (.lmul, 1) := by decide +kernel
theorem dX11_wholeOf_46 : decode cX11_wholeOf 46 = .ok (.lstore_n 1, 1) := by decide +kernel
theorem dX11_wholeOf_47 : decode cX11_wholeOf 47 = .ok (.iinc 3 1, 3) := by decide +kernel
theorem dX11_wholeOf_50 : decode cX11_wholeOf 50 = .ok (.goto (-19), 3) := by decide +kernel
theorem dX11_wholeOf_53 : decode cX11_wholeOf 53 = .ok (.lload_n 1, 1) := by decide +kernel
theorem dX11_wholeOf_54 : decode cX11_wholeOf 54 = .ok (.lreturn, 1) := by decide +kernel
theorem dX11_tells_0 : decode cX11_tells 0 = .ok (.iload_n 1, 1) := by decide +kernel
theorem dX11_tells_1 : decode cX11_tells 1 = .ok (.i2l, 1) := by decide +kernel
theorem dX11_tells_2 : decode cX11_tells 2 = .ok (.lconst 0, 1) := by decide +kernel
theorem dX11_tells_3 : decode cX11_tells 3 = .ok (.iconst 1, 1) := by decide +kernel
theorem dX11_tells_4 : decode cX11_tells 4 = .ok (.aload_n 0, 1) := by decide +kernel
theorem dX11_tells_5 : decode cX11_tells 5 = .ok (.getfield 16, 3) := by decide +kernel
theorem dX11_tells_8 : decode cX11_tells 8 = .ok (.iconst 5, 1) := by decide +kernel
theorem dX11_tells_9 : decode cX11_tells 9 = .ok (.iaload, 1) := by decide +kernel
theorem dX11_tells_10 : decode cX11_tells 10 = .ok (.ishl, 1) := by decide +kernel
theorem dX11_tells_11 : decode cX11_tells 11 = .ok (.iconst 1, 1) := by decide +kernel
theorem dX11_tells_12 : decode cX11_tells 12 = .ok (.isub, 1) := by decide +kernel
theorem dX11_tells_13 : decode cX11_tells 13 = .ok (.i2l, 1) := by decide +kernel
theorem dX11_tells_14 : decode cX11_tells 14 = .ok (.invokestatic 120, 3) := by decide +kernel
theorem dX11_tells_17 : decode cX11_tells 17 = .ok (.ifCond .eq 19, 3) := by decide +kernel
theorem dX11_tells_20 : decode cX11_tells 20 = .ok (.aload_n 0, 1) := by decide +kernel
theorem dX11_tells_21 : decode cX11_tells 21 = .ok (.aload_n 0, 1) := by decide +kernel
theorem dX11_tells_22 : decode cX11_tells 22 = .ok (.iload_n 1, 1) := by decide +kernel
theorem dX11_tells_23 : decode cX11_tells 23 = .ok (.invokevirtual 241, 3) := by decide +kernel
theorem dX11_tells_26 : decode cX11_tells 26 = .ok (.aload_n 0, 1) := by decide +kernel
theorem dX11_tells_27 : decode cX11_tells 27 = .ok (.invokevirtual 245, 3) := by decide +kernel
theorem dX11_tells_30 : decode cX11_tells 30 = .ok (.invokevirtual 163, 3) := by decide +kernel
theorem dX11_tells_33 : decode cX11_tells 33 = .ok (.goto 5, 3) := by decide +kernel
theorem dX11_tells_36 : decode cX11_tells 36 = .ok (.bipush (-2), 2) := by decide +kernel
theorem dX11_tells_38 : decode cX11_tells 38 = .ok (.ireturn, 1) := by decide +kernel
theorem dX11_minutesOf_0 : decode cX11_minutesOf 0 = .ok (.iconst 0, 1) := by decide +kernel
theorem dX11_minutesOf_1 : decode cX11_minutesOf 1 = .ok (.istore_n 2, 1) := by decide +kernel
theorem dX11_minutesOf_2 : decode cX11_minutesOf 2 = .ok (.iconst 0, 1) := by decide +kernel
theorem dX11_minutesOf_3 : decode cX11_minutesOf 3 = .ok (.istore_n 3, 1) := by decide +kernel
theorem dX11_minutesOf_4 : decode cX11_minutesOf 4 = .ok (.iload_n 3, 1) := by decide +kernel
theorem dX11_minutesOf_5 : decode cX11_minutesOf 5 = .ok (.aload_n 0, 1) := by decide +kernel
theorem dX11_minutesOf_6 : decode cX11_minutesOf 6 = .ok (.getfield 16, 3) := by decide +kernel
theorem dX11_minutesOf_9 : decode cX11_minutesOf 9 = .ok (.iconst 5, 1) := by decide +kernel
theorem dX11_minutesOf_10 : decode cX11_minutesOf 10 = .ok (.iaload, 1) := by decide +kernel
theorem dX11_minutesOf_11 : decode cX11_minutesOf 11 = .ok (.if_icmp .ge 31, 3) := by decide +kernel
theorem dX11_minutesOf_14 : decode cX11_minutesOf 14 = .ok (.iload_n 2, 1) := by decide +kernel
theorem dX11_minutesOf_15 : decode cX11_minutesOf 15 = .ok (.iload_n 1, 1) := by decide +kernel
theorem dX11_minutesOf_16 : decode cX11_minutesOf 16 = .ok (.iload_n 3, 1) := by decide +kernel
theorem dX11_minutesOf_17 : decode cX11_minutesOf 17 = .ok (.ishr, 1) := by decide +kernel
theorem dX11_minutesOf_18 : decode cX11_minutesOf 18 = .ok (.iconst 1, 1) := by decide +kernel
theorem dX11_minutesOf_19 : decode cX11_minutesOf 19 = .ok (.iand, 1) := by decide +kernel
theorem dX11_minutesOf_20 : decode cX11_minutesOf 20 = .ok (.iconst 1, 1) := by decide +kernel
theorem dX11_minutesOf_21 : decode cX11_minutesOf 21 = .ok (.if_icmp .ne 12, 3) := by decide +kernel
theorem dX11_minutesOf_24 : decode cX11_minutesOf 24 = .ok (.aload_n 0, 1) := by decide +kernel
theorem dX11_minutesOf_25 : decode cX11_minutesOf 25 = .ok (.getfield 79, 3) := by decide +kernel
theorem dX11_minutesOf_28 : decode cX11_minutesOf 28 = .ok (.iload_n 3, 1) := by decide +kernel
theorem dX11_minutesOf_29 : decode cX11_minutesOf 29 = .ok (.iaload, 1) := by decide +kernel
theorem dX11_minutesOf_30 : decode cX11_minutesOf 30 = .ok (.goto 4, 3) := by decide +kernel
theorem dX11_minutesOf_33 : decode cX11_minutesOf 33 = .ok (.iconst 0, 1) := by decide +kernel
theorem dX11_minutesOf_34 : decode cX11_minutesOf 34 = .ok (.iadd, 1) := by decide +kernel
theorem dX11_minutesOf_35 : decode cX11_minutesOf 35 = .ok (.istore_n 2, 1) := by decide +kernel
theorem dX11_minutesOf_36 : decode cX11_minutesOf 36 = .ok (.iinc 3 1, 3) := by decide +kernel
theorem dX11_minutesOf_39 : decode cX11_minutesOf 39 = .ok (.goto (-35), 3) := by decide +kernel
theorem dX11_minutesOf_42 : decode cX11_minutesOf 42 = .ok (.iload_n 2, 1) := by decide +kernel
theorem dX11_minutesOf_43 : decode cX11_minutesOf 43 = .ok (.ireturn, 1) := by decide +kernel
theorem dX11_form_0 : decode cX11_form 0 = .ok (.iload_n 1, 1) := by decide +kernel
theorem dX11_form_1 : decode cX11_form 1 = .ok (.i2l, 1) := by decide +kernel
theorem dX11_form_2 : decode cX11_form 2 = .ok (.lconst 0, 1) := by decide +kernel
theorem dX11_form_3 : decode cX11_form 3 = .ok (.ldc2_w 249, 3) := by decide +kernel
theorem dX11_form_6 : decode cX11_form 6 = .ok (.invokestatic 120, 3) := by decide +kernel
theorem dX11_form_9 : decode cX11_form 9 = .ok (.ifCond .ne 6, 3) := by decide +kernel
theorem dX11_form_12 : decode cX11_form 12 = .ok (.bipush (-2), 2) := by decide +kernel
theorem dX11_form_14 : decode cX11_form 14 = .ok (.ireturn, 1) := by decide +kernel
theorem dX11_form_15 : decode cX11_form 15 = .ok (.iconst 0, 1) := by decide +kernel
theorem dX11_form_16 : decode cX11_form 16 = .ok (.istore_n 2, 1) := by decide +kernel
theorem dX11_form_17 : decode cX11_form 17 = .ok (.aload_n 0, 1) := by decide +kernel
theorem dX11_form_18 : decode cX11_form 18 = .ok (.iconst 0, 1) := by decide +kernel
theorem dX11_form_19 : decode cX11_form 19 = .ok (.invokevirtual 241, 3) := by decide +kernel
theorem dX11_form_22 : decode cX11_form 22 = .ok (.lstore_n 3, 1) := by decide +kernel
theorem dX11_form_23 : decode cX11_form 23 = .ok (.iconst 1, 1) := by decide +kernel
theorem dX11_form_24 : decode cX11_form 24 = .ok (.istore 5, 2) := by decide +kernel
theorem dX11_form_26 : decode cX11_form 26 = .ok (.iload 5, 2) := by decide +kernel
theorem dX11_form_28 : decode cX11_form 28 = .ok (.iconst 1, 1) := by decide +kernel
theorem dX11_form_29 : decode cX11_form 29 = .ok (.aload_n 0, 1) := by decide +kernel
theorem dX11_form_30 : decode cX11_form 30 = .ok (.getfield 16, 3) := by decide +kernel
theorem dX11_form_33 : decode cX11_form 33 = .ok (.iconst 5, 1) := by decide +kernel
theorem dX11_form_34 : decode cX11_form 34 = .ok (.iaload, 1) := by decide +kernel
theorem dX11_form_35 : decode cX11_form 35 = .ok (.ishl, 1) := by decide +kernel
theorem dX11_form_36 : decode cX11_form 36 = .ok (.if_icmp .ge 61, 3) := by decide +kernel
theorem dX11_form_39 : decode cX11_form 39 = .ok (.aload_n 0, 1) := by decide +kernel
theorem dX11_form_40 : decode cX11_form 40 = .ok (.iload 5, 2) := by decide +kernel
theorem dX11_form_42 : decode cX11_form 42 = .ok (.invokevirtual 251, 3) := by decide +kernel
theorem dX11_form_45 : decode cX11_form 45 = .ok (.iload_n 1, 1) := by decide +kernel
theorem dX11_form_46 : decode cX11_form 46 = .ok (.if_icmp .gt 45, 3) := by decide +kernel
theorem dX11_form_49 : decode cX11_form 49 = .ok (.aload_n 0, 1) := by decide +kernel
theorem dX11_form_50 : decode cX11_form 50 = .ok (.iload 5, 2) := by decide +kernel
theorem dX11_form_52 : decode cX11_form 52 = .ok (.invokevirtual 241, 3) := by decide +kernel
theorem dX11_form_55 : decode cX11_form 55 = .ok (.lstore 6, 2) := by decide +kernel
theorem dX11_form_57 : decode cX11_form 57 = .ok (.lload 6, 2) := by decide +kernel
theorem dX11_form_59 : decode cX11_form 59 = .ok (.lload_n 3, 1) := by decide +kernel
theorem dX11_form_60 : decode cX11_form 60 = .ok (.lcmp, 1) := by decide +kernel
theorem dX11_form_61 : decode cX11_form 61 = .ok (.ifCond .gt 24, 3) := by decide +kernel
theorem dX11_form_64 : decode cX11_form 64 = .ok (.lload 6, 2) := by decide +kernel
theorem dX11_form_66 : decode cX11_form 66 = .ok (.lload_n 3, 1) := by decide +kernel
theorem dX11_form_67 : decode cX11_form 67 = .ok (.lcmp, 1) := by decide +kernel
theorem dX11_form_68 : decode cX11_form 68 = .ok (.ifCond .ne 23, 3) := by decide +kernel
theorem dX11_form_71 : decode cX11_form 71 = .ok (.aload_n 0, 1) := by decide +kernel
theorem dX11_form_72 : decode cX11_form 72 = .ok (.iload 5, 2) := by decide +kernel
theorem dX11_form_74 : decode cX11_form 74 = .ok (.invokevirtual 251, 3) := by decide +kernel
theorem dX11_form_77 : decode cX11_form 77 = .ok (.aload_n 0, 1) := by decide +kernel
theorem dX11_form_78 : decode cX11_form 78 = .ok (.iload_n 2, 1) := by decide +kernel
theorem dX11_form_79 : decode cX11_form 79 = .ok (.invokevirtual 251, 3) := by decide +kernel
theorem dX11_form_82 : decode cX11_form 82 = .ok (.if_icmp .ge 9, 3) := by decide +kernel
theorem dX11_form_85 : decode cX11_form 85 = .ok (.iload 5, 2) := by decide +kernel
theorem dX11_form_87 : decode cX11_form 87 = .ok (.istore_n 2, 1) := by decide +kernel
theorem dX11_form_88 : decode cX11_form 88 = .ok (.lload 6, 2) := by decide +kernel
theorem dX11_form_90 : decode cX11_form 90 = .ok (.lstore_n 3, 1) := by decide +kernel
theorem dX11_form_91 : decode cX11_form 91 = .ok (.iinc 5 1, 3) := by decide +kernel
theorem dX11_form_94 : decode cX11_form 94 = .ok (.goto (-68), 3) := by decide +kernel
theorem dX11_form_97 : decode cX11_form 97 = .ok (.iload_n 2, 1) := by decide +kernel
theorem dX11_form_98 : decode cX11_form 98 = .ok (.ireturn, 1) := by decide +kernel
theorem dX11_count_0 : decode cX11_count 0 = .ok (.iload_n 1, 1) := by decide +kernel
theorem dX11_count_1 : decode cX11_count 1 = .ok (.i2l, 1) := by decide +kernel
theorem dX11_count_2 : decode cX11_count 2 = .ok (.lconst 0, 1) := by decide +kernel
theorem dX11_count_3 : decode cX11_count 3 = .ok (.ldc2_w 219, 3) := by decide +kernel
theorem dX11_count_6 : decode cX11_count 6 = .ok (.invokestatic 120, 3) := by decide +kernel
theorem dX11_count_9 : decode cX11_count 9 = .ok (.ifCond .eq 12, 3) := by decide +kernel
theorem dX11_count_12 : decode cX11_count 12 = .ok (.aload_n 0, 1) := by decide +kernel
theorem dX11_count_13 : decode cX11_count 13 = .ok (.getfield 16, 3) := by decide +kernel
theorem dX11_count_16 : decode cX11_count 16 = .ok (.iload_n 1, 1) := by decide +kernel
theorem dX11_count_17 : decode cX11_count 17 = .ok (.iaload, 1) := by decide +kernel
theorem dX11_count_18 : decode cX11_count 18 = .ok (.goto 5, 3) := by decide +kernel
theorem dX11_count_21 : decode cX11_count 21 = .ok (.bipush (-2), 2) := by decide +kernel
theorem dX11_count_23 : decode cX11_count 23 = .ok (.ireturn, 1) := by decide +kernel
theorem dX11_mixed_0 : decode cX11_mixed 0 = .ok (.lload_n 0, 1) := by decide +kernel
theorem dX11_mixed_1 : decode cX11_mixed 1 = .ok (.lstore 5, 2) := by decide +kernel
theorem dX11_mixed_3 : decode cX11_mixed 3 = .ok (.iconst 0, 1) := by decide +kernel
theorem dX11_mixed_4 : decode cX11_mixed 4 = .ok (.istore 7, 2) := by decide +kernel
theorem dX11_mixed_6 : decode cX11_mixed 6 = .ok (.iload 7, 2) := by decide +kernel
theorem dX11_mixed_8 : decode cX11_mixed 8 = .ok (.iload 4, 2) := by decide +kernel
theorem dX11_mixed_10 : decode cX11_mixed 10 = .ok (.if_icmp .ge 25, 3) := by decide +kernel
theorem dX11_mixed_13 : decode cX11_mixed 13 = .ok (.ldc2_w 254, 3) := by decide +kernel
theorem dX11_mixed_16 : decode cX11_mixed 16 = .ok (.lload 5, 2) := by decide +kernel
theorem dX11_mixed_18 : decode cX11_mixed 18 = .ok (.lmul, 1) := by decide +kernel
theorem dX11_mixed_19 : decode cX11_mixed 19 = .ok (.aload_n 2, 1) := by decide +kernel
theorem dX11_mixed_20 : decode cX11_mixed 20 = .ok (.iload_n 3, 1) := by decide +kernel
theorem dX11_mixed_21 : decode cX11_mixed 21 = .ok (.iload 7, 2) := by decide +kernel
theorem dX11_mixed_23 : decode cX11_mixed 23 = .ok (.iadd, 1) := by decide +kernel
theorem dX11_mixed_24 : decode cX11_mixed 24 = .ok (.iaload, 1) := by decide +kernel
theorem dX11_mixed_25 : decode cX11_mixed 25 = .ok (.i2l, 1) := by decide +kernel
theorem dX11_mixed_26 : decode cX11_mixed 26 = .ok (.ladd, 1) := by decide +kernel
theorem dX11_mixed_27 : decode cX11_mixed 27 = .ok (.lstore 5, 2) := by decide +kernel
theorem dX11_mixed_29 : decode cX11_mixed 29 = .ok (.iinc 7 1, 3) := by decide +kernel
theorem dX11_mixed_32 : decode cX11_mixed 32 = .ok (.goto (-26), 3) := by decide +kernel
theorem dX11_mixed_35 : decode cX11_mixed 35 = .ok (.lload 5, 2) := by decide +kernel
theorem dX11_mixed_37 : decode cX11_mixed 37 = .ok (.lreturn, 1) := by decide +kernel
theorem dX11_digest_0 : decode cX11_digest 0 = .ok (.ldc2_w 256, 3) := by decide +kernel
theorem dX11_digest_3 : decode cX11_digest 3 = .ok (.aload_n 0, 1) := by decide +kernel
theorem dX11_digest_4 : decode cX11_digest 4 = .ok (.getfield 16, 3) := by decide +kernel
theorem dX11_digest_7 : decode cX11_digest 7 = .ok (.iconst 0, 1) := by decide +kernel
theorem dX11_digest_8 : decode cX11_digest 8 = .ok (.bipush 6, 2) := by decide +kernel
theorem dX11_digest_10 : decode cX11_digest 10 = .ok (.invokestatic 258, 3) := by decide +kernel
theorem dX11_digest_13 : decode cX11_digest 13 = .ok (.lstore_n 1, 1) := by decide +kernel
theorem dX11_digest_14 : decode cX11_digest 14 = .ok (.iconst 0, 1) := by decide +kernel
theorem dX11_digest_15 : decode cX11_digest 15 = .ok (.istore_n 3, 1) := by decide +kernel
theorem dX11_digest_16 : decode cX11_digest 16 = .ok (.iload_n 3, 1) := by decide +kernel
theorem dX11_digest_17 : decode cX11_digest 17 = .ok (.aload_n 0, 1) := by decide +kernel
theorem dX11_digest_18 : decode cX11_digest 18 = .ok (.getfield 16, 3) := by decide +kernel
theorem dX11_digest_21 : decode cX11_digest 21 = .ok (.iconst 0, 1) := by decide +kernel
theorem dX11_digest_22 : decode cX11_digest 22 = .ok (.iaload, 1) := by decide +kernel
theorem dX11_digest_23 : decode cX11_digest 23 = .ok (.if_icmp .ge 35, 3) := by decide +kernel
theorem dX11_digest_26 : decode cX11_digest 26 = .ok (.ldc2_w 254, 3) := by decide +kernel
theorem dX11_digest_29 : decode cX11_digest 29 = .ok (.ldc2_w 254, 3) := by decide +kernel
theorem dX11_digest_32 : decode cX11_digest 32 = .ok (.lload_n 1, 1) := by decide +kernel
theorem dX11_digest_33 : decode cX11_digest 33 = .ok (.lmul, 1) := by decide +kernel
theorem dX11_digest_34 : decode cX11_digest 34 = .ok (.aload_n 0, 1) := by decide +kernel
theorem dX11_digest_35 : decode cX11_digest 35 = .ok (.getfield 19, 3) := by decide +kernel
theorem dX11_digest_38 : decode cX11_digest 38 = .ok (.iload_n 3, 1) := by decide +kernel
theorem dX11_digest_39 : decode cX11_digest 39 = .ok (.iaload, 1) := by decide +kernel
theorem dX11_digest_40 : decode cX11_digest 40 = .ok (.i2l, 1) := by decide +kernel
theorem dX11_digest_41 : decode cX11_digest 41 = .ok (.ladd, 1) := by decide +kernel
theorem dX11_digest_42 : decode cX11_digest 42 = .ok (.lmul, 1) := by decide +kernel
theorem dX11_digest_43 : decode cX11_digest 43 = .ok (.aload_n 0, 1) := by decide +kernel
theorem dX11_digest_44 : decode cX11_digest 44 = .ok (.getfield 22, 3) := by decide +kernel
theorem dX11_digest_47 : decode cX11_digest 47 = .ok (.iload_n 3, 1) := by decide +kernel
theorem dX11_digest_48 : decode cX11_digest 48 = .ok (.iaload, 1) := by decide +kernel
theorem dX11_digest_49 : decode cX11_digest 49 = .ok (.i2l, 1) := by decide +kernel
theorem dX11_digest_50 : decode cX11_digest 50 = .ok (.ladd, 1) := by decide +kernel
theorem dX11_digest_51 : decode cX11_digest 51 = .ok (.lstore_n 1, 1) := by decide +kernel
theorem dX11_digest_52 : decode cX11_digest 52 = .ok (.iinc 3 1, 3) := by decide +kernel
theorem dX11_digest_55 : decode cX11_digest 55 = .ok (.goto (-39), 3) := by decide +kernel
theorem dX11_digest_58 : decode cX11_digest 58 = .ok (.lload_n 1, 1) := by decide +kernel
theorem dX11_digest_59 : decode cX11_digest 59 = .ok (.aload_n 0, 1) := by decide +kernel
theorem dX11_digest_60 : decode cX11_digest 60 = .ok (.getfield 25, 3) := by decide +kernel
theorem dX11_digest_63 : decode cX11_digest 63 = .ok (.iconst 0, 1) := by decide +kernel
theorem dX11_digest_64 : decode cX11_digest 64 = .ok (.aload_n 0, 1) := by decide +kernel
theorem dX11_digest_65 : decode cX11_digest 65 = .ok (.getfield 16, 3) := by decide +kernel
theorem dX11_digest_68 : decode cX11_digest 68 = .ok (.iconst 1, 1) := by decide +kernel
theorem dX11_digest_69 : decode cX11_digest 69 = .ok (.iaload, 1) := by decide +kernel
theorem dX11_digest_70 : decode cX11_digest 70 = .ok (.invokestatic 258, 3) := by decide +kernel
theorem dX11_digest_73 : decode cX11_digest 73 = .ok (.lstore_n 1, 1) := by decide +kernel
theorem dX11_digest_74 : decode cX11_digest 74 = .ok (.iconst 0, 1) := by decide +kernel
theorem dX11_digest_75 : decode cX11_digest 75 = .ok (.istore_n 3, 1) := by decide +kernel
theorem dX11_digest_76 : decode cX11_digest 76 = .ok (.iload_n 3, 1) := by decide +kernel
theorem dX11_digest_77 : decode cX11_digest 77 = .ok (.aload_n 0, 1) := by decide +kernel
theorem dX11_digest_78 : decode cX11_digest 78 = .ok (.getfield 16, 3) := by decide +kernel
theorem dX11_digest_81 : decode cX11_digest 81 = .ok (.iconst 2, 1) := by decide +kernel
theorem dX11_digest_82 : decode cX11_digest 82 = .ok (.iaload, 1) := by decide +kernel
theorem dX11_digest_83 : decode cX11_digest 83 = .ok (.if_icmp .ge 35, 3) := by decide +kernel
theorem dX11_digest_86 : decode cX11_digest 86 = .ok (.ldc2_w 254, 3) := by decide +kernel
theorem dX11_digest_89 : decode cX11_digest 89 = .ok (.ldc2_w 254, 3) := by decide +kernel
theorem dX11_digest_92 : decode cX11_digest 92 = .ok (.lload_n 1, 1) := by decide +kernel
theorem dX11_digest_93 : decode cX11_digest 93 = .ok (.lmul, 1) := by decide +kernel
theorem dX11_digest_94 : decode cX11_digest 94 = .ok (.aload_n 0, 1) := by decide +kernel
theorem dX11_digest_95 : decode cX11_digest 95 = .ok (.getfield 28, 3) := by decide +kernel
theorem dX11_digest_98 : decode cX11_digest 98 = .ok (.iload_n 3, 1) := by decide +kernel
theorem dX11_digest_99 : decode cX11_digest 99 = .ok (.iaload, 1) := by decide +kernel
theorem dX11_digest_100 : decode cX11_digest 100 = .ok (.i2l, 1) := by decide +kernel
theorem dX11_digest_101 : decode cX11_digest 101 = .ok (.ladd, 1) := by decide +kernel
theorem dX11_digest_102 : decode cX11_digest 102 = .ok (.lmul, 1) := by decide +kernel
theorem dX11_digest_103 : decode cX11_digest 103 = .ok (.aload_n 0, 1) := by decide +kernel
theorem dX11_digest_104 : decode cX11_digest 104 = .ok (.getfield 31, 3) := by decide +kernel
theorem dX11_digest_107 : decode cX11_digest 107 = .ok (.iload_n 3, 1) := by decide +kernel
theorem dX11_digest_108 : decode cX11_digest 108 = .ok (.iaload, 1) := by decide +kernel
theorem dX11_digest_109 : decode cX11_digest 109 = .ok (.i2l, 1) := by decide +kernel
theorem dX11_digest_110 : decode cX11_digest 110 = .ok (.ladd, 1) := by decide +kernel
theorem dX11_digest_111 : decode cX11_digest 111 = .ok (.lstore_n 1, 1) := by decide +kernel
theorem dX11_digest_112 : decode cX11_digest 112 = .ok (.iinc 3 1, 3) := by decide +kernel
theorem dX11_digest_115 : decode cX11_digest 115 = .ok (.goto (-39), 3) := by decide +kernel
theorem dX11_digest_118 : decode cX11_digest 118 = .ok (.iconst 0, 1) := by decide +kernel
theorem dX11_digest_119 : decode cX11_digest 119 = .ok (.istore_n 3, 1) := by decide +kernel
theorem dX11_digest_120 : decode cX11_digest 120 = .ok (.iload_n 3, 1) := by decide +kernel
theorem dX11_digest_121 : decode cX11_digest 121 = .ok (.aload_n 0, 1) := by decide +kernel
theorem dX11_digest_122 : decode cX11_digest 122 = .ok (.getfield 16, 3) := by decide +kernel
theorem dX11_digest_125 : decode cX11_digest 125 = .ok (.iconst 3, 1) := by decide +kernel
theorem dX11_digest_126 : decode cX11_digest 126 = .ok (.iaload, 1) := by decide +kernel
theorem dX11_digest_127 : decode cX11_digest 127 = .ok (.if_icmp .ge 78, 3) := by decide +kernel
theorem dX11_digest_130 : decode cX11_digest 130 = .ok (.ldc2_w 254, 3) := by decide +kernel
theorem dX11_digest_133 : decode cX11_digest 133 = .ok (.ldc2_w 254, 3) := by decide +kernel
theorem dX11_digest_136 : decode cX11_digest 136 = .ok (.ldc2_w 254, 3) := by decide +kernel
theorem dX11_digest_139 : decode cX11_digest 139 = .ok (.ldc2_w 254, 3) := by decide +kernel
theorem dX11_digest_142 : decode cX11_digest 142 = .ok (.lload_n 1, 1) := by decide +kernel
theorem dX11_digest_143 : decode cX11_digest 143 = .ok (.lmul, 1) := by decide +kernel
theorem dX11_digest_144 : decode cX11_digest 144 = .ok (.aload_n 0, 1) := by decide +kernel
theorem dX11_digest_145 : decode cX11_digest 145 = .ok (.getfield 34, 3) := by decide +kernel
theorem dX11_digest_148 : decode cX11_digest 148 = .ok (.iload_n 3, 1) := by decide +kernel
theorem dX11_digest_149 : decode cX11_digest 149 = .ok (.iaload, 1) := by decide +kernel
theorem dX11_digest_150 : decode cX11_digest 150 = .ok (.i2l, 1) := by decide +kernel
theorem dX11_digest_151 : decode cX11_digest 151 = .ok (.ladd, 1) := by decide +kernel
theorem dX11_digest_152 : decode cX11_digest 152 = .ok (.lmul, 1) := by decide +kernel
theorem dX11_digest_153 : decode cX11_digest 153 = .ok (.aload_n 0, 1) := by decide +kernel
theorem dX11_digest_154 : decode cX11_digest 154 = .ok (.getfield 37, 3) := by decide +kernel
theorem dX11_digest_157 : decode cX11_digest 157 = .ok (.iload_n 3, 1) := by decide +kernel
theorem dX11_digest_158 : decode cX11_digest 158 = .ok (.iaload, 1) := by decide +kernel
theorem dX11_digest_159 : decode cX11_digest 159 = .ok (.i2l, 1) := by decide +kernel
theorem dX11_digest_160 : decode cX11_digest 160 = .ok (.ladd, 1) := by decide +kernel
theorem dX11_digest_161 : decode cX11_digest 161 = .ok (.lmul, 1) := by decide +kernel
theorem dX11_digest_162 : decode cX11_digest 162 = .ok (.aload_n 0, 1) := by decide +kernel
theorem dX11_digest_163 : decode cX11_digest 163 = .ok (.getfield 40, 3) := by decide +kernel
theorem dX11_digest_166 : decode cX11_digest 166 = .ok (.iload_n 3, 1) := by decide +kernel
theorem dX11_digest_167 : decode cX11_digest 167 = .ok (.iaload, 1) := by decide +kernel
theorem dX11_digest_168 : decode cX11_digest 168 = .ok (.i2l, 1) := by decide +kernel
theorem dX11_digest_169 : decode cX11_digest 169 = .ok (.ladd, 1) := by decide +kernel
theorem dX11_digest_170 : decode cX11_digest 170 = .ok (.lmul, 1) := by decide +kernel
theorem dX11_digest_171 : decode cX11_digest 171 = .ok (.aload_n 0, 1) := by decide +kernel
theorem dX11_digest_172 : decode cX11_digest 172 = .ok (.getfield 43, 3) := by decide +kernel
theorem dX11_digest_175 : decode cX11_digest 175 = .ok (.iload_n 3, 1) := by decide +kernel
theorem dX11_digest_176 : decode cX11_digest 176 = .ok (.iaload, 1) := by decide +kernel
theorem dX11_digest_177 : decode cX11_digest 177 = .ok (.i2l, 1) := by decide +kernel
theorem dX11_digest_178 : decode cX11_digest 178 = .ok (.ladd, 1) := by decide +kernel
theorem dX11_digest_179 : decode cX11_digest 179 = .ok (.lstore_n 1, 1) := by decide +kernel
theorem dX11_digest_180 : decode cX11_digest 180 = .ok (.lload_n 1, 1) := by decide +kernel
theorem dX11_digest_181 : decode cX11_digest 181 = .ok (.aload_n 0, 1) := by decide +kernel
theorem dX11_digest_182 : decode cX11_digest 182 = .ok (.getfield 46, 3) := by decide +kernel
theorem dX11_digest_185 : decode cX11_digest 185 = .ok (.bipush 8, 2) := by decide +kernel
theorem dX11_digest_187 : decode cX11_digest 187 = .ok (.iload_n 3, 1) := by decide +kernel
theorem dX11_digest_188 : decode cX11_digest 188 = .ok (.imul, 1) := by decide +kernel
theorem dX11_digest_189 : decode cX11_digest 189 = .ok (.aload_n 0, 1) := by decide +kernel
theorem dX11_digest_190 : decode cX11_digest 190 = .ok (.getfield 43, 3) := by decide +kernel
theorem dX11_digest_193 : decode cX11_digest 193 = .ok (.iload_n 3, 1) := by decide +kernel
theorem dX11_digest_194 : decode cX11_digest 194 = .ok (.iaload, 1) := by decide +kernel
theorem dX11_digest_195 : decode cX11_digest 195 = .ok (.invokestatic 258, 3) := by decide +kernel
theorem dX11_digest_198 : decode cX11_digest 198 = .ok (.lstore_n 1, 1) := by decide +kernel
theorem dX11_digest_199 : decode cX11_digest 199 = .ok (.iinc 3 1, 3) := by decide +kernel
theorem dX11_digest_202 : decode cX11_digest 202 = .ok (.goto (-82), 3) := by decide +kernel
theorem dX11_digest_205 : decode cX11_digest 205 = .ok (.lload_n 1, 1) := by decide +kernel
theorem dX11_digest_206 : decode cX11_digest 206 = .ok (.aload_n 0, 1) := by decide +kernel
theorem dX11_digest_207 : decode cX11_digest 207 = .ok (.getfield 49, 3) := by decide +kernel
theorem dX11_digest_210 : decode cX11_digest 210 = .ok (.iconst 0, 1) := by decide +kernel
theorem dX11_digest_211 : decode cX11_digest 211 = .ok (.iconst 4, 1) := by decide +kernel
theorem dX11_digest_212 : decode cX11_digest 212 = .ok (.invokestatic 258, 3) := by decide +kernel
theorem dX11_digest_215 : decode cX11_digest 215 = .ok (.lstore_n 1, 1) := by decide +kernel
theorem dX11_digest_216 : decode cX11_digest 216 = .ok (.iconst 0, 1) := by decide +kernel
theorem dX11_digest_217 : decode cX11_digest 217 = .ok (.istore_n 3, 1) := by decide +kernel
theorem dX11_digest_218 : decode cX11_digest 218 = .ok (.iload_n 3, 1) := by decide +kernel
theorem dX11_digest_219 : decode cX11_digest 219 = .ok (.aload_n 0, 1) := by decide +kernel
theorem dX11_digest_220 : decode cX11_digest 220 = .ok (.getfield 16, 3) := by decide +kernel
theorem dX11_digest_223 : decode cX11_digest 223 = .ok (.iconst 4, 1) := by decide +kernel
theorem dX11_digest_224 : decode cX11_digest 224 = .ok (.iaload, 1) := by decide +kernel
theorem dX11_digest_225 : decode cX11_digest 225 = .ok (.if_icmp .ge 47, 3) := by decide +kernel
theorem dX11_digest_228 : decode cX11_digest 228 = .ok (.ldc2_w 254, 3) := by decide +kernel
theorem dX11_digest_231 : decode cX11_digest 231 = .ok (.ldc2_w 254, 3) := by decide +kernel
theorem dX11_digest_234 : decode cX11_digest 234 = .ok (.ldc2_w 254, 3) := by decide +kernel
theorem dX11_digest_237 : decode cX11_digest 237 = .ok (.lload_n 1, 1) := by decide +kernel
theorem dX11_digest_238 : decode cX11_digest 238 = .ok (.lmul, 1) := by decide +kernel
theorem dX11_digest_239 : decode cX11_digest 239 = .ok (.aload_n 0, 1) := by decide +kernel
theorem dX11_digest_240 : decode cX11_digest 240 = .ok (.getfield 55, 3) := by decide +kernel
theorem dX11_digest_243 : decode cX11_digest 243 = .ok (.iload_n 3, 1) := by decide +kernel
theorem dX11_digest_244 : decode cX11_digest 244 = .ok (.iaload, 1) := by decide +kernel
theorem dX11_digest_245 : decode cX11_digest 245 = .ok (.i2l, 1) := by decide +kernel
theorem dX11_digest_246 : decode cX11_digest 246 = .ok (.ladd, 1) := by decide +kernel
theorem dX11_digest_247 : decode cX11_digest 247 = .ok (.lmul, 1) := by decide +kernel
theorem dX11_digest_248 : decode cX11_digest 248 = .ok (.aload_n 0, 1) := by decide +kernel
theorem dX11_digest_249 : decode cX11_digest 249 = .ok (.getfield 58, 3) := by decide +kernel
theorem dX11_digest_252 : decode cX11_digest 252 = .ok (.iload_n 3, 1) := by decide +kernel
theorem dX11_digest_253 : decode cX11_digest 253 = .ok (.iaload, 1) := by decide +kernel
theorem dX11_digest_254 : decode cX11_digest 254 = .ok (.i2l, 1) := by decide +kernel
theorem dX11_digest_255 : decode cX11_digest 255 = .ok (.ladd, 1) := by decide +kernel
theorem dX11_digest_256 : decode cX11_digest 256 = .ok (.lmul, 1) := by decide +kernel
theorem dX11_digest_257 : decode cX11_digest 257 = .ok (.aload_n 0, 1) := by decide +kernel
theorem dX11_digest_258 : decode cX11_digest 258 = .ok (.getfield 61, 3) := by decide +kernel
theorem dX11_digest_261 : decode cX11_digest 261 = .ok (.iload_n 3, 1) := by decide +kernel
theorem dX11_digest_262 : decode cX11_digest 262 = .ok (.iaload, 1) := by decide +kernel
theorem dX11_digest_263 : decode cX11_digest 263 = .ok (.i2l, 1) := by decide +kernel
theorem dX11_digest_264 : decode cX11_digest 264 = .ok (.ladd, 1) := by decide +kernel
theorem dX11_digest_265 : decode cX11_digest 265 = .ok (.lstore_n 1, 1) := by decide +kernel
theorem dX11_digest_266 : decode cX11_digest 266 = .ok (.iinc 3 1, 3) := by decide +kernel
theorem dX11_digest_269 : decode cX11_digest 269 = .ok (.goto (-51), 3) := by decide +kernel
theorem dX11_digest_272 : decode cX11_digest 272 = .ok (.lload_n 1, 1) := by decide +kernel
theorem dX11_digest_273 : decode cX11_digest 273 = .ok (.aload_n 0, 1) := by decide +kernel
theorem dX11_digest_274 : decode cX11_digest 274 = .ok (.getfield 67, 3) := by decide +kernel
theorem dX11_digest_277 : decode cX11_digest 277 = .ok (.iconst 0, 1) := by decide +kernel
theorem dX11_digest_278 : decode cX11_digest 278 = .ok (.bipush 6, 2) := by decide +kernel
theorem dX11_digest_280 : decode cX11_digest 280 = .ok (.invokestatic 258, 3) := by decide +kernel
theorem dX11_digest_283 : decode cX11_digest 283 = .ok (.lstore_n 1, 1) := by decide +kernel
theorem dX11_digest_284 : decode cX11_digest 284 = .ok (.iconst 0, 1) := by decide +kernel
theorem dX11_digest_285 : decode cX11_digest 285 = .ok (.istore_n 3, 1) := by decide +kernel
theorem dX11_digest_286 : decode cX11_digest 286 = .ok (.iload_n 3, 1) := by decide +kernel
theorem dX11_digest_287 : decode cX11_digest 287 = .ok (.aload_n 0, 1) := by decide +kernel
theorem dX11_digest_288 : decode cX11_digest 288 = .ok (.getfield 16, 3) := by decide +kernel
theorem dX11_digest_291 : decode cX11_digest 291 = .ok (.iconst 5, 1) := by decide +kernel
theorem dX11_digest_292 : decode cX11_digest 292 = .ok (.iaload, 1) := by decide +kernel
theorem dX11_digest_293 : decode cX11_digest 293 = .ok (.if_icmp .ge 34, 3) := by decide +kernel
theorem dX11_digest_296 : decode cX11_digest 296 = .ok (.ldc2_w 254, 3) := by decide +kernel
theorem dX11_digest_299 : decode cX11_digest 299 = .ok (.lload_n 1, 1) := by decide +kernel
theorem dX11_digest_300 : decode cX11_digest 300 = .ok (.lmul, 1) := by decide +kernel
theorem dX11_digest_301 : decode cX11_digest 301 = .ok (.aload_n 0, 1) := by decide +kernel
theorem dX11_digest_302 : decode cX11_digest 302 = .ok (.getfield 79, 3) := by decide +kernel
theorem dX11_digest_305 : decode cX11_digest 305 = .ok (.iload_n 3, 1) := by decide +kernel
theorem dX11_digest_306 : decode cX11_digest 306 = .ok (.iaload, 1) := by decide +kernel
theorem dX11_digest_307 : decode cX11_digest 307 = .ok (.i2l, 1) := by decide +kernel
theorem dX11_digest_308 : decode cX11_digest 308 = .ok (.ladd, 1) := by decide +kernel
theorem dX11_digest_309 : decode cX11_digest 309 = .ok (.aload_n 0, 1) := by decide +kernel
theorem dX11_digest_310 : decode cX11_digest 310 = .ok (.getfield 82, 3) := by decide +kernel
theorem dX11_digest_313 : decode cX11_digest 313 = .ok (.iconst 4, 1) := by decide +kernel
theorem dX11_digest_314 : decode cX11_digest 314 = .ok (.iload_n 3, 1) := by decide +kernel
theorem dX11_digest_315 : decode cX11_digest 315 = .ok (.imul, 1) := by decide +kernel
theorem dX11_digest_316 : decode cX11_digest 316 = .ok (.iconst 4, 1) := by decide +kernel
theorem dX11_digest_317 : decode cX11_digest 317 = .ok (.invokestatic 258, 3) := by decide +kernel
theorem dX11_digest_320 : decode cX11_digest 320 = .ok (.lstore_n 1, 1) := by decide +kernel
theorem dX11_digest_321 : decode cX11_digest 321 = .ok (.iinc 3 1, 3) := by decide +kernel
theorem dX11_digest_324 : decode cX11_digest 324 = .ok (.goto (-38), 3) := by decide +kernel
theorem dX11_digest_327 : decode cX11_digest 327 = .ok (.ldc2_w 254, 3) := by decide +kernel
theorem dX11_digest_330 : decode cX11_digest 330 = .ok (.lload_n 1, 1) := by decide +kernel
theorem dX11_digest_331 : decode cX11_digest 331 = .ok (.lmul, 1) := by decide +kernel
theorem dX11_digest_332 : decode cX11_digest 332 = .ok (.aload_n 0, 1) := by decide +kernel
theorem dX11_digest_333 : decode cX11_digest 333 = .ok (.iconst (-1), 1) := by decide +kernel
theorem dX11_digest_334 : decode cX11_digest 334 = .ok (.iconst 0, 1) := by decide +kernel
theorem dX11_digest_335 : decode cX11_digest 335 = .ok (.invokevirtual 216, 3) := by decide +kernel
theorem dX11_digest_338 : decode cX11_digest 338 = .ok (.i2l, 1) := by decide +kernel
theorem dX11_digest_339 : decode cX11_digest 339 = .ok (.ladd, 1) := by decide +kernel
theorem dX11_digest_340 : decode cX11_digest 340 = .ok (.lstore_n 1, 1) := by decide +kernel
theorem dX11_digest_341 : decode cX11_digest 341 = .ok (.iconst 0, 1) := by decide +kernel
theorem dX11_digest_342 : decode cX11_digest 342 = .ok (.istore_n 3, 1) := by decide +kernel
theorem dX11_digest_343 : decode cX11_digest 343 = .ok (.iload_n 3, 1) := by decide +kernel
theorem dX11_digest_344 : decode cX11_digest 344 = .ok (.iconst 3, 1) := by decide +kernel
theorem dX11_digest_345 : decode cX11_digest 345 = .ok (.if_icmp .ge 22, 3) := by decide +kernel
theorem dX11_digest_348 : decode cX11_digest 348 = .ok (.ldc2_w 254, 3) := by decide +kernel
theorem dX11_digest_351 : decode cX11_digest 351 = .ok (.lload_n 1, 1) := by decide +kernel
theorem dX11_digest_352 : decode cX11_digest 352 = .ok (.lmul, 1) := by decide +kernel
theorem dX11_digest_353 : decode cX11_digest 353 = .ok (.aload_n 0, 1) := by decide +kernel
theorem dX11_digest_354 : decode cX11_digest 354 = .ok (.iload_n 3, 1) := by decide +kernel
theorem dX11_digest_355 : decode cX11_digest 355 = .ok (.invokevirtual 262, 3) := by decide +kernel
theorem dX11_digest_358 : decode cX11_digest 358 = .ok (.i2l, 1) := by decide +kernel
theorem dX11_digest_359 : decode cX11_digest 359 = .ok (.ladd, 1) := by decide +kernel
theorem dX11_digest_360 : decode cX11_digest 360 = .ok (.lstore_n 1, 1) := by decide +kernel
theorem dX11_digest_361 : decode cX11_digest 361 = .ok (.iinc 3 1, 3) := by decide +kernel
theorem dX11_digest_364 : decode cX11_digest 364 = .ok (.goto (-21), 3) := by decide +kernel
theorem dX11_digest_367 : decode cX11_digest 367 = .ok (.lload_n 1, 1) := by decide +kernel
theorem dX11_digest_368 : decode cX11_digest 368 = .ok (.aload_n 0, 1) := by decide +kernel
theorem dX11_digest_369 : decode cX11_digest 369 = .ok (.getfield 7, 3) := by decide +kernel
theorem dX11_digest_372 : decode cX11_digest 372 = .ok (.iconst 0, 1) := by decide +kernel
theorem dX11_digest_373 : decode cX11_digest 373 = .ok (.aload_n 0, 1) := by decide +kernel
theorem dX11_digest_374 : decode cX11_digest 374 = .ok (.getfield 13, 3) := by decide +kernel
theorem dX11_digest_377 : decode cX11_digest 377 = .ok (.iconst 0, 1) := by decide +kernel
theorem dX11_digest_378 : decode cX11_digest 378 = .ok (.iaload, 1) := by decide +kernel
theorem dX11_digest_379 : decode cX11_digest 379 = .ok (.invokestatic 258, 3) := by decide +kernel
theorem dX11_digest_382 : decode cX11_digest 382 = .ok (.lstore_n 1, 1) := by decide +kernel
theorem dX11_digest_383 : decode cX11_digest 383 = .ok (.lload_n 1, 1) := by decide +kernel
theorem dX11_digest_384 : decode cX11_digest 384 = .ok (.aload_n 0, 1) := by decide +kernel
theorem dX11_digest_385 : decode cX11_digest 385 = .ok (.getfield 7, 3) := by decide +kernel
theorem dX11_digest_388 : decode cX11_digest 388 = .ok (.bipush 50, 2) := by decide +kernel
theorem dX11_digest_390 : decode cX11_digest 390 = .ok (.aload_n 0, 1) := by decide +kernel
theorem dX11_digest_391 : decode cX11_digest 391 = .ok (.getfield 13, 3) := by decide +kernel
theorem dX11_digest_394 : decode cX11_digest 394 = .ok (.iconst 1, 1) := by decide +kernel
theorem dX11_digest_395 : decode cX11_digest 395 = .ok (.iaload, 1) := by decide +kernel
theorem dX11_digest_396 : decode cX11_digest 396 = .ok (.invokestatic 258, 3) := by decide +kernel
theorem dX11_digest_399 : decode cX11_digest 399 = .ok (.lreturn, 1) := by decide +kernel
theorem dL_law_0 : decode cL_law 0 = .ok (.new 7, 3) := by decide +kernel
theorem dL_law_3 : decode cL_law 3 = .ok (.dup, 1) := by decide +kernel
theorem dL_law_4 : decode cL_law 4 = .ok (.invokespecial 9, 3) := by decide +kernel
theorem dL_law_7 : decode cL_law 7 = .ok (.astore_n 1, 1) := by decide +kernel
theorem dL_law_8 : decode cL_law 8 = .ok (.new 10, 3) := by decide +kernel
theorem dL_law_11 : decode cL_law 11 = .ok (.dup, 1) := by decide +kernel
theorem dL_law_12 : decode cL_law 12 = .ok (.invokespecial 12, 3) := by decide +kernel
theorem dL_law_15 : decode cL_law 15 = .ok (.astore_n 2, 1) := by decide +kernel
theorem dL_law_16 : decode cL_law 16 = .ok (.iconst 0, 1) := by decide +kernel
theorem dL_law_17 : decode cL_law 17 = .ok (.istore_n 3, 1) := by decide +kernel
theorem dL_law_18 : decode cL_law 18 = .ok (.iload_n 3, 1) := by decide +kernel
theorem dL_law_19 : decode cL_law 19 = .ok (.aload_n 0, 1) := by decide +kernel
theorem dL_law_20 : decode cL_law 20 = .ok (.arraylength, 1) := by decide +kernel
theorem dL_law_21 : decode cL_law 21 = .ok (.bipush 6, 2) := by decide +kernel
theorem dL_law_23 : decode cL_law 23 = .ok (.isub, 1) := by decide +kernel
theorem dL_law_24 : decode cL_law 24 = .ok (.if_icmp .gt 1235, 3) := by decide +kernel
theorem dL_law_27 : decode cL_law 27 = .ok (.aload_n 0, 1) := by decide +kernel
theorem dL_law_28 : decode cL_law 28 = .ok (.iload_n 3, 1) := by decide +kernel
theorem dL_law_29 : decode cL_law 29 = .ok (.iaload, 1) := by decide +kernel
theorem dL_law_30 : decode cL_law 30 = .ok (.bipush 31, 2) := by decide +kernel
theorem dL_law_32 : decode cL_law 32 = .ok (.iand, 1) := by decide +kernel
theorem dL_law_33 : decode cL_law 33 = .ok (.tableswitch 1220 0 31 #[143, 176, 199, 232, 265, 308, 341, 374, 417, 460, 493, 516, 539, 572, 615, 658, 701, 744, 777, 800, 843, 866, 899, 932, 965, 1018, 1081, 1104, 1127, 1150, 1183, 1206], 143) := by decide +kernel
theorem dL_law_176 : decode cL_law 176 = .ok (.aload_n 1, 1) := by decide +kernel
theorem dL_law_177 : decode cL_law 177 = .ok (.aload_n 0, 1) := by decide +kernel
theorem dL_law_178 : decode cL_law 178 = .ok (.iload_n 3, 1) := by decide +kernel
theorem dL_law_179 : decode cL_law 179 = .ok (.iconst 1, 1) := by decide +kernel
theorem dL_law_180 : decode cL_law 180 = .ok (.iadd, 1) := by decide +kernel
theorem dL_law_181 : decode cL_law 181 = .ok (.iaload, 1) := by decide +kernel
theorem dL_law_182 : decode cL_law 182 = .ok (.aload_n 0, 1) := by decide +kernel
theorem dL_law_183 : decode cL_law 183 = .ok (.iload_n 3, 1) := by decide +kernel
theorem dL_law_184 : decode cL_law 184 = .ok (.iconst 2, 1) := by decide +kernel
theorem dL_law_185 : decode cL_law 185 = .ok (.iadd, 1) := by decide +kernel
theorem dL_law_186 : decode cL_law 186 = .ok (.iaload, 1) := by decide +kernel
theorem dL_law_187 : decode cL_law 187 = .ok (.invokevirtual 13, 3) := by decide +kernel
theorem dL_law_190 : decode cL_law 190 = .ok (.aload_n 2, 1) := by decide +kernel
theorem dL_law_191 : decode cL_law 191 = .ok (.aload_n 0, 1) := by decide +kernel
theorem dL_law_192 : decode cL_law 192 = .ok (.iload_n 3, 1) := by decide +kernel
theorem dL_law_193 : decode cL_law 193 = .ok (.iconst 1, 1) := by decide +kernel
theorem dL_law_194 : decode cL_law 194 = .ok (.iadd, 1) := by decide +kernel
theorem dL_law_195 : decode cL_law 195 = .ok (.iaload, 1) := by decide +kernel
theorem dL_law_196 : decode cL_law 196 = .ok (.aload_n 0, 1) := by decide +kernel
theorem dL_law_197 : decode cL_law 197 = .ok (.iload_n 3, 1) := by decide +kernel
theorem dL_law_198 : decode cL_law 198 = .ok (.iconst 2, 1) := by decide +kernel
theorem dL_law_199 : decode cL_law 199 = .ok (.iadd, 1) := by decide +kernel
theorem dL_law_200 : decode cL_law 200 = .ok (.iaload, 1) := by decide +kernel
theorem dL_law_201 : decode cL_law 201 = .ok (.invokevirtual 17, 3) := by decide +kernel
theorem dL_law_204 : decode cL_law 204 = .ok (.if_icmp .eq 1049, 3) := by decide +kernel
theorem dL_law_207 : decode cL_law 207 = .ok (.iconst 0, 1) := by decide +kernel
theorem dL_law_208 : decode cL_law 208 = .ok (.ireturn, 1) := by decide +kernel
theorem dL_law_209 : decode cL_law 209 = .ok (.aload_n 1, 1) := by decide +kernel
theorem dL_law_210 : decode cL_law 210 = .ok (.aload_n 0, 1) := by decide +kernel
theorem dL_law_211 : decode cL_law 211 = .ok (.iload_n 3, 1) := by decide +kernel
theorem dL_law_212 : decode cL_law 212 = .ok (.iconst 1, 1) := by decide +kernel
theorem dL_law_213 : decode cL_law 213 = .ok (.iadd, 1) := by decide +kernel
theorem dL_law_214 : decode cL_law 214 = .ok (.iaload, 1) := by decide +kernel
theorem dL_law_215 : decode cL_law 215 = .ok (.invokevirtual 18, 3) := by decide +kernel
theorem dL_law_218 : decode cL_law 218 = .ok (.aload_n 2, 1) := by decide +kernel
theorem dL_law_219 : decode cL_law 219 = .ok (.aload_n 0, 1) := by decide +kernel
theorem dL_law_220 : decode cL_law 220 = .ok (.iload_n 3, 1) := by decide +kernel
theorem dL_law_221 : decode cL_law 221 = .ok (.iconst 1, 1) := by decide +kernel
theorem dL_law_222 : decode cL_law 222 = .ok (.iadd, 1) := by decide +kernel
theorem dL_law_223 : decode cL_law 223 = .ok (.iaload, 1) := by decide +kernel
theorem dL_law_224 : decode cL_law 224 = .ok (.invokevirtual 22, 3) := by decide +kernel
theorem dL_law_227 : decode cL_law 227 = .ok (.if_icmp .eq 1026, 3) := by decide +kernel
theorem dL_law_230 : decode cL_law 230 = .ok (.iconst 0, 1) := by decide +kernel
theorem dL_law_231 : decode cL_law 231 = .ok (.ireturn, 1) := by decide +kernel
theorem dL_law_232 : decode cL_law 232 = .ok (.aload_n 1, 1) := by decide +kernel
theorem dL_law_233 : decode cL_law 233 = .ok (.aload_n 0, 1) := by decide +kernel
theorem dL_law_234 : decode cL_law 234 = .ok (.iload_n 3, 1) := by decide +kernel
theorem dL_law_235 : decode cL_law 235 = .ok (.iconst 1, 1) := by decide +kernel
theorem dL_law_236 : decode cL_law 236 = .ok (.iadd, 1) := by decide +kernel
theorem dL_law_237 : decode cL_law 237 = .ok (.iaload, 1) := by decide +kernel
theorem dL_law_238 : decode cL_law 238 = .ok (.aload_n 0, 1) := by decide +kernel
theorem dL_law_239 : decode cL_law 239 = .ok (.iload_n 3, 1) := by decide +kernel
theorem dL_law_240 : decode cL_law 240 = .ok (.iconst 2, 1) := by decide +kernel
theorem dL_law_241 : decode cL_law 241 = .ok (.iadd, 1) := by decide +kernel
theorem dL_law_242 : decode cL_law 242 = .ok (.iaload, 1) := by decide +kernel
theorem dL_law_243 : decode cL_law 243 = .ok (.invokevirtual 23, 3) := by decide +kernel
theorem dL_law_246 : decode cL_law 246 = .ok (.aload_n 2, 1) := by decide +kernel
theorem dL_law_247 : decode cL_law 247 = .ok (.aload_n 0, 1) := by decide +kernel
theorem dL_law_248 : decode cL_law 248 = .ok (.iload_n 3, 1) := by decide +kernel
theorem dL_law_249 : decode cL_law 249 = .ok (.iconst 1, 1) := by decide +kernel
theorem dL_law_250 : decode cL_law 250 = .ok (.iadd, 1) := by decide +kernel
theorem dL_law_251 : decode cL_law 251 = .ok (.iaload, 1) := by decide +kernel
theorem dL_law_252 : decode cL_law 252 = .ok (.aload_n 0, 1) := by decide +kernel
theorem dL_law_253 : decode cL_law 253 = .ok (.iload_n 3, 1) := by decide +kernel
theorem dL_law_254 : decode cL_law 254 = .ok (.iconst 2, 1) := by decide +kernel
theorem dL_law_255 : decode cL_law 255 = .ok (.iadd, 1) := by decide +kernel
theorem dL_law_256 : decode cL_law 256 = .ok (.iaload, 1) := by decide +kernel
theorem dL_law_257 : decode cL_law 257 = .ok (.invokevirtual 26, 3) := by decide +kernel
theorem dL_law_260 : decode cL_law 260 = .ok (.if_icmp .eq 993, 3) := by decide +kernel
theorem dL_law_263 : decode cL_law 263 = .ok (.iconst 0, 1) := by decide +kernel
theorem dL_law_264 : decode cL_law 264 = .ok (.ireturn, 1) := by decide +kernel
theorem dL_law_265 : decode cL_law 265 = .ok (.aload_n 1, 1) := by decide +kernel
theorem dL_law_266 : decode cL_law 266 = .ok (.aload_n 0, 1) := by decide +kernel
theorem dL_law_267 : decode cL_law 267 = .ok (.iload_n 3, 1) := by decide +kernel
theorem dL_law_268 : decode cL_law 268 = .ok (.iconst 1, 1) := by decide +kernel
theorem dL_law_269 : decode cL_law 269 = .ok (.iadd, 1) := by decide +kernel
theorem dL_law_270 : decode cL_law 270 = .ok (.iaload, 1) := by decide +kernel
theorem dL_law_271 : decode cL_law 271 = .ok (.aload_n 0, 1) := by decide +kernel
theorem dL_law_272 : decode cL_law 272 = .ok (.iload_n 3, 1) := by decide +kernel
theorem dL_law_273 : decode cL_law 273 = .ok (.iconst 2, 1) := by decide +kernel
theorem dL_law_274 : decode cL_law 274 = .ok (.iadd, 1) := by decide +kernel
theorem dL_law_275 : decode cL_law 275 = .ok (.iaload, 1) := by decide +kernel
theorem dL_law_276 : decode cL_law 276 = .ok (.invokevirtual 27, 3) := by decide +kernel
theorem dL_law_279 : decode cL_law 279 = .ok (.aload_n 2, 1) := by decide +kernel
theorem dL_law_280 : decode cL_law 280 = .ok (.aload_n 0, 1) := by decide +kernel
theorem dL_law_281 : decode cL_law 281 = .ok (.iload_n 3, 1) := by decide +kernel
theorem dL_law_282 : decode cL_law 282 = .ok (.iconst 1, 1) := by decide +kernel
theorem dL_law_283 : decode cL_law 283 = .ok (.iadd, 1) := by decide +kernel
theorem dL_law_284 : decode cL_law 284 = .ok (.iaload, 1) := by decide +kernel
theorem dL_law_285 : decode cL_law 285 = .ok (.aload_n 0, 1) := by decide +kernel
theorem dL_law_286 : decode cL_law 286 = .ok (.iload_n 3, 1) := by decide +kernel
theorem dL_law_287 : decode cL_law 287 = .ok (.iconst 2, 1) := by decide +kernel
theorem dL_law_288 : decode cL_law 288 = .ok (.iadd, 1) := by decide +kernel
theorem dL_law_289 : decode cL_law 289 = .ok (.iaload, 1) := by decide +kernel
theorem dL_law_290 : decode cL_law 290 = .ok (.invokevirtual 30, 3) := by decide +kernel
theorem dL_law_293 : decode cL_law 293 = .ok (.if_icmp .eq 960, 3) := by decide +kernel
theorem dL_law_296 : decode cL_law 296 = .ok (.iconst 0, 1) := by decide +kernel
theorem dL_law_297 : decode cL_law 297 = .ok (.ireturn, 1) := by decide +kernel
theorem dL_law_298 : decode cL_law 298 = .ok (.aload_n 1, 1) := by decide +kernel
theorem dL_law_299 : decode cL_law 299 = .ok (.aload_n 0, 1) := by decide +kernel
theorem dL_law_300 : decode cL_law 300 = .ok (.iload_n 3, 1) := by decide +kernel
theorem dL_law_301 : decode cL_law 301 = .ok (.iconst 1, 1) := by decide +kernel
theorem dL_law_302 : decode cL_law 302 = .ok (.iadd, 1) := by decide +kernel
theorem dL_law_303 : decode cL_law 303 = .ok (.iaload, 1) := by decide +kernel
theorem dL_law_304 : decode cL_law 304 = .ok (.aload_n 0, 1) := by decide +kernel
theorem dL_law_305 : decode cL_law 305 = .ok (.iload_n 3, 1) := by decide +kernel
theorem dL_law_306 : decode cL_law 306 = .ok (.iconst 2, 1) := by decide +kernel
theorem dL_law_307 : decode cL_law 307 = .ok (.iadd, 1) := by decide +kernel
theorem dL_law_308 : decode cL_law 308 = .ok (.iaload, 1) := by decide +kernel
theorem dL_law_309 : decode cL_law 309 = .ok (.aload_n 0, 1) := by decide +kernel
theorem dL_law_310 : decode cL_law 310 = .ok (.iload_n 3, 1) := by decide +kernel
theorem dL_law_311 : decode cL_law 311 = .ok (.iconst 3, 1) := by decide +kernel
theorem dL_law_312 : decode cL_law 312 = .ok (.iadd, 1) := by decide +kernel
theorem dL_law_313 : decode cL_law 313 = .ok (.iaload, 1) := by decide +kernel
theorem dL_law_314 : decode cL_law 314 = .ok (.invokevirtual 31, 3) := by decide +kernel
theorem dL_law_317 : decode cL_law 317 = .ok (.aload_n 2, 1) := by decide +kernel
theorem dL_law_318 : decode cL_law 318 = .ok (.aload_n 0, 1) := by decide +kernel
theorem dL_law_319 : decode cL_law 319 = .ok (.iload_n 3, 1) := by decide +kernel
theorem dL_law_320 : decode cL_law 320 = .ok (.iconst 1, 1) := by decide +kernel
theorem dL_law_321 : decode cL_law 321 = .ok (.iadd, 1) := by decide +kernel
theorem dL_law_322 : decode cL_law 322 = .ok (.iaload, 1) := by decide +kernel
theorem dL_law_323 : decode cL_law 323 = .ok (.aload_n 0, 1) := by decide +kernel
theorem dL_law_324 : decode cL_law 324 = .ok (.iload_n 3, 1) := by decide +kernel
theorem dL_law_325 : decode cL_law 325 = .ok (.iconst 2, 1) := by decide +kernel
theorem dL_law_326 : decode cL_law 326 = .ok (.iadd, 1) := by decide +kernel
theorem dL_law_327 : decode cL_law 327 = .ok (.iaload, 1) := by decide +kernel
theorem dL_law_328 : decode cL_law 328 = .ok (.aload_n 0, 1) := by decide +kernel
theorem dL_law_329 : decode cL_law 329 = .ok (.iload_n 3, 1) := by decide +kernel
theorem dL_law_330 : decode cL_law 330 = .ok (.iconst 3, 1) := by decide +kernel
theorem dL_law_331 : decode cL_law 331 = .ok (.iadd, 1) := by decide +kernel
theorem dL_law_332 : decode cL_law 332 = .ok (.iaload, 1) := by decide +kernel
theorem dL_law_333 : decode cL_law 333 = .ok (.invokevirtual 35, 3) := by decide +kernel
theorem dL_law_336 : decode cL_law 336 = .ok (.if_icmp .eq 917, 3) := by decide +kernel
theorem dL_law_339 : decode cL_law 339 = .ok (.iconst 0, 1) := by decide +kernel
theorem dL_law_340 : decode cL_law 340 = .ok (.ireturn, 1) := by decide +kernel
theorem dL_law_341 : decode cL_law 341 = .ok (.aload_n 1, 1) := by decide +kernel
theorem dL_law_342 : decode cL_law 342 = .ok (.aload_n 0, 1) := by decide +kernel
theorem dL_law_343 : decode cL_law 343 = .ok (.iload_n 3, 1) := by decide +kernel
theorem dL_law_344 : decode cL_law 344 = .ok (.iconst 1, 1) := by decide +kernel
theorem dL_law_345 : decode cL_law 345 = .ok (.iadd, 1) := by decide +kernel
theorem dL_law_346 : decode cL_law 346 = .ok (.iaload, 1) := by decide +kernel
theorem dL_law_347 : decode cL_law 347 = .ok (.aload_n 0, 1) := by decide +kernel
theorem dL_law_348 : decode cL_law 348 = .ok (.iload_n 3, 1) := by decide +kernel
theorem dL_law_349 : decode cL_law 349 = .ok (.iconst 2, 1) := by decide +kernel
theorem dL_law_350 : decode cL_law 350 = .ok (.iadd, 1) := by decide +kernel
theorem dL_law_351 : decode cL_law 351 = .ok (.iaload, 1) := by decide +kernel
theorem dL_law_352 : decode cL_law 352 = .ok (.invokevirtual 36, 3) := by decide +kernel
theorem dL_law_355 : decode cL_law 355 = .ok (.aload_n 2, 1) := by decide +kernel
theorem dL_law_356 : decode cL_law 356 = .ok (.aload_n 0, 1) := by decide +kernel
theorem dL_law_357 : decode cL_law 357 = .ok (.iload_n 3, 1) := by decide +kernel
theorem dL_law_358 : decode cL_law 358 = .ok (.iconst 1, 1) := by decide +kernel
theorem dL_law_359 : decode cL_law 359 = .ok (.iadd, 1) := by decide +kernel
theorem dL_law_360 : decode cL_law 360 = .ok (.iaload, 1) := by decide +kernel
theorem dL_law_361 : decode cL_law 361 = .ok (.aload_n 0, 1) := by decide +kernel
theorem dL_law_362 : decode cL_law 362 = .ok (.iload_n 3, 1) := by decide +kernel
theorem dL_law_363 : decode cL_law 363 = .ok (.iconst 2, 1) := by decide +kernel
theorem dL_law_364 : decode cL_law 364 = .ok (.iadd, 1) := by decide +kernel
theorem dL_law_365 : decode cL_law 365 = .ok (.iaload, 1) := by decide +kernel
theorem dL_law_366 : decode cL_law 366 = .ok (.invokevirtual 39, 3) := by decide +kernel
theorem dL_law_369 : decode cL_law 369 = .ok (.if_icmp .eq 884, 3) := by decide +kernel
theorem dL_law_372 : decode cL_law 372 = .ok (.iconst 0, 1) := by decide +kernel
theorem dL_law_373 : decode cL_law 373 = .ok (.ireturn, 1) := by decide +kernel
theorem dL_law_374 : decode cL_law 374 = .ok (.aload_n 1, 1) := by decide +kernel
theorem dL_law_375 : decode cL_law 375 = .ok (.aload_n 0, 1) := by decide +kernel
theorem dL_law_376 : decode cL_law 376 = .ok (.iload_n 3, 1) := by decide +kernel
theorem dL_law_377 : decode cL_law 377 = .ok (.iconst 1, 1) := by decide +kernel
theorem dL_law_378 : decode cL_law 378 = .ok (.iadd, 1) := by decide +kernel
theorem dL_law_379 : decode cL_law 379 = .ok (.iaload, 1) := by decide +kernel
theorem dL_law_380 : decode cL_law 380 = .ok (.aload_n 0, 1) := by decide +kernel
theorem dL_law_381 : decode cL_law 381 = .ok (.iload_n 3, 1) := by decide +kernel
theorem dL_law_382 : decode cL_law 382 = .ok (.iconst 2, 1) := by decide +kernel
theorem dL_law_383 : decode cL_law 383 = .ok (.iadd, 1) := by decide +kernel
theorem dL_law_384 : decode cL_law 384 = .ok (.iaload, 1) := by decide +kernel
theorem dL_law_385 : decode cL_law 385 = .ok (.invokevirtual 40, 3) := by decide +kernel
theorem dL_law_388 : decode cL_law 388 = .ok (.aload_n 2, 1) := by decide +kernel
theorem dL_law_389 : decode cL_law 389 = .ok (.aload_n 0, 1) := by decide +kernel
theorem dL_law_390 : decode cL_law 390 = .ok (.iload_n 3, 1) := by decide +kernel
theorem dL_law_391 : decode cL_law 391 = .ok (.iconst 1, 1) := by decide +kernel
theorem dL_law_392 : decode cL_law 392 = .ok (.iadd, 1) := by decide +kernel
theorem dL_law_393 : decode cL_law 393 = .ok (.iaload, 1) := by decide +kernel
theorem dL_law_394 : decode cL_law 394 = .ok (.aload_n 0, 1) := by decide +kernel
theorem dL_law_395 : decode cL_law 395 = .ok (.iload_n 3, 1) := by decide +kernel
theorem dL_law_396 : decode cL_law 396 = .ok (.iconst 2, 1) := by decide +kernel
theorem dL_law_397 : decode cL_law 397 = .ok (.iadd, 1) := by decide +kernel
theorem dL_law_398 : decode cL_law 398 = .ok (.iaload, 1) := by decide +kernel
theorem dL_law_399 : decode cL_law 399 = .ok (.invokevirtual 43, 3) := by decide +kernel
theorem dL_law_402 : decode cL_law 402 = .ok (.if_icmp .eq 851, 3) := by decide +kernel
theorem dL_law_405 : decode cL_law 405 = .ok (.iconst 0, 1) := by decide +kernel
theorem dL_law_406 : decode cL_law 406 = .ok (.ireturn, 1) := by decide +kernel
theorem dL_law_407 : decode cL_law 407 = .ok (.aload_n 1, 1) := by decide +kernel
theorem dL_law_408 : decode cL_law 408 = .ok (.aload_n 0, 1) := by decide +kernel
theorem dL_law_409 : decode cL_law 409 = .ok (.iload_n 3, 1) := by decide +kernel
theorem dL_law_410 : decode cL_law 410 = .ok (.iconst 1, 1) := by decide +kernel
theorem dL_law_411 : decode cL_law 411 = .ok (.iadd, 1) := by decide +kernel
theorem dL_law_412 : decode cL_law 412 = .ok (.iaload, 1) := by decide +kernel
theorem dL_law_413 : decode cL_law 413 = .ok (.aload_n 0, 1) := by decide +kernel
theorem dL_law_414 : decode cL_law 414 = .ok (.iload_n 3, 1) := by decide +kernel
theorem dL_law_415 : decode cL_law 415 = .ok (.iconst 2, 1) := by decide +kernel
theorem dL_law_416 : decode cL_law 416 = .ok (.iadd, 1) := by decide +kernel
theorem dL_law_417 : decode cL_law 417 = .ok (.iaload, 1) := by decide +kernel
theorem dL_law_418 : decode cL_law 418 = .ok (.aload_n 0, 1) := by decide +kernel
theorem dL_law_419 : decode cL_law 419 = .ok (.iload_n 3, 1) := by decide +kernel
theorem dL_law_420 : decode cL_law 420 = .ok (.iconst 3, 1) := by decide +kernel
theorem dL_law_421 : decode cL_law 421 = .ok (.iadd, 1) := by decide +kernel
theorem dL_law_422 : decode cL_law 422 = .ok (.iaload, 1) := by decide +kernel
theorem dL_law_423 : decode cL_law 423 = .ok (.invokevirtual 44, 3) := by decide +kernel
theorem dL_law_426 : decode cL_law 426 = .ok (.aload_n 2, 1) := by decide +kernel
theorem dL_law_427 : decode cL_law 427 = .ok (.aload_n 0, 1) := by decide +kernel
theorem dL_law_428 : decode cL_law 428 = .ok (.iload_n 3, 1) := by decide +kernel
theorem dL_law_429 : decode cL_law 429 = .ok (.iconst 1, 1) := by decide +kernel
theorem dL_law_430 : decode cL_law 430 = .ok (.iadd, 1) := by decide +kernel
theorem dL_law_431 : decode cL_law 431 = .ok (.iaload, 1) := by decide +kernel
theorem dL_law_432 : decode cL_law 432 = .ok (.aload_n 0, 1) := by decide +kernel
theorem dL_law_433 : decode cL_law 433 = .ok (.iload_n 3, 1) := by decide +kernel
theorem dL_law_434 : decode cL_law 434 = .ok (.iconst 2, 1) := by decide +kernel
theorem dL_law_435 : decode cL_law 435 = .ok (.iadd, 1) := by decide +kernel
theorem dL_law_436 : decode cL_law 436 = .ok (.iaload, 1) := by decide +kernel
theorem dL_law_437 : decode cL_law 437 = .ok (.aload_n 0, 1) := by decide +kernel
theorem dL_law_438 : decode cL_law 438 = .ok (.iload_n 3, 1) := by decide +kernel
theorem dL_law_439 : decode cL_law 439 = .ok (.iconst 3, 1) := by decide +kernel
theorem dL_law_440 : decode cL_law 440 = .ok (.iadd, 1) := by decide +kernel
theorem dL_law_441 : decode cL_law 441 = .ok (.iaload, 1) := by decide +kernel
theorem dL_law_442 : decode cL_law 442 = .ok (.invokevirtual 47, 3) := by decide +kernel
theorem dL_law_445 : decode cL_law 445 = .ok (.if_icmp .eq 808, 3) := by decide +kernel
theorem dL_law_448 : decode cL_law 448 = .ok (.iconst 0, 1) := by decide +kernel
theorem dL_law_449 : decode cL_law 449 = .ok (.ireturn, 1) := by decide +kernel
theorem dL_law_450 : decode cL_law 450 = .ok (.aload_n 1, 1) := by decide +kernel
theorem dL_law_451 : decode cL_law 451 = .ok (.aload_n 0, 1) := by decide +kernel
theorem dL_law_452 : decode cL_law 452 = .ok (.iload_n 3, 1) := by decide +kernel
theorem dL_law_453 : decode cL_law 453 = .ok (.iconst 1, 1) := by decide +kernel
theorem dL_law_454 : decode cL_law 454 = .ok (.iadd, 1) := by decide +kernel
theorem dL_law_455 : decode cL_law 455 = .ok (.iaload, 1) := by decide +kernel
theorem dL_law_456 : decode cL_law 456 = .ok (.aload_n 0, 1) := by decide +kernel
theorem dL_law_457 : decode cL_law 457 = .ok (.iload_n 3, 1) := by decide +kernel
theorem dL_law_458 : decode cL_law 458 = .ok (.iconst 2, 1) := by decide +kernel
theorem dL_law_459 : decode cL_law 459 = .ok (.iadd, 1) := by decide +kernel
theorem dL_law_460 : decode cL_law 460 = .ok (.iaload, 1) := by decide +kernel
theorem dL_law_461 : decode cL_law 461 = .ok (.aload_n 0, 1) := by decide +kernel
theorem dL_law_462 : decode cL_law 462 = .ok (.iload_n 3, 1) := by decide +kernel
theorem dL_law_463 : decode cL_law 463 = .ok (.iconst 3, 1) := by decide +kernel
theorem dL_law_464 : decode cL_law 464 = .ok (.iadd, 1) := by decide +kernel
theorem dL_law_465 : decode cL_law 465 = .ok (.iaload, 1) := by decide +kernel
theorem dL_law_466 : decode cL_law 466 = .ok (.invokevirtual 48, 3) := by decide +kernel
theorem dL_law_469 : decode cL_law 469 = .ok (.aload_n 2, 1) := by decide +kernel
theorem dL_law_470 : decode cL_law 470 = .ok (.aload_n 0, 1) := by decide +kernel
theorem dL_law_471 : decode cL_law 471 = .ok (.iload_n 3, 1) := by decide +kernel
theorem dL_law_472 : decode cL_law 472 = .ok (.iconst 1, 1) := by decide +kernel
theorem dL_law_473 : decode cL_law 473 = .ok (.iadd, 1) := by decide +kernel
theorem dL_law_474 : decode cL_law 474 = .ok (.iaload, 1) := by decide +kernel
theorem dL_law_475 : decode cL_law 475 = .ok (.aload_n 0, 1) := by decide +kernel
theorem dL_law_476 : decode cL_law 476 = .ok (.iload_n 3, 1) := by decide +kernel
theorem dL_law_477 : decode cL_law 477 = .ok (.iconst 2, 1) := by decide +kernel
theorem dL_law_478 : decode cL_law 478 = .ok (.iadd, 1) := by decide +kernel
theorem dL_law_479 : decode cL_law 479 = .ok (.iaload, 1) := by decide +kernel
theorem dL_law_480 : decode cL_law 480 = .ok (.aload_n 0, 1) := by decide +kernel
theorem dL_law_481 : decode cL_law 481 = .ok (.iload_n 3, 1) := by decide +kernel
theorem dL_law_482 : decode cL_law 482 = .ok (.iconst 3, 1) := by decide +kernel
theorem dL_law_483 : decode cL_law 483 = .ok (.iadd, 1) := by decide +kernel
theorem dL_law_484 : decode cL_law 484 = .ok (.iaload, 1) := by decide +kernel
theorem dL_law_485 : decode cL_law 485 = .ok (.invokevirtual 51, 3) := by decide +kernel
theorem dL_law_488 : decode cL_law 488 = .ok (.if_icmp .eq 765, 3) := by decide +kernel
theorem dL_law_491 : decode cL_law 491 = .ok (.iconst 0, 1) := by decide +kernel
theorem dL_law_492 : decode cL_law 492 = .ok (.ireturn, 1) := by decide +kernel
theorem dL_law_493 : decode cL_law 493 = .ok (.aload_n 1, 1) := by decide +kernel
theorem dL_law_494 : decode cL_law 494 = .ok (.aload_n 0, 1) := by decide +kernel
theorem dL_law_495 : decode cL_law 495 = .ok (.iload_n 3, 1) := by decide +kernel
theorem dL_law_496 : decode cL_law 496 = .ok (.iconst 1, 1) := by decide +kernel
theorem dL_law_497 : decode cL_law 497 = .ok (.iadd, 1) := by decide +kernel
theorem dL_law_498 : decode cL_law 498 = .ok (.iaload, 1) := by decide +kernel
theorem dL_law_499 : decode cL_law 499 = .ok (.aload_n 0, 1) := by decide +kernel
theorem dL_law_500 : decode cL_law 500 = .ok (.iload_n 3, 1) := by decide +kernel
theorem dL_law_501 : decode cL_law 501 = .ok (.iconst 2, 1) := by decide +kernel
theorem dL_law_502 : decode cL_law 502 = .ok (.iadd, 1) := by decide +kernel
theorem dL_law_503 : decode cL_law 503 = .ok (.iaload, 1) := by decide +kernel
theorem dL_law_504 : decode cL_law 504 = .ok (.invokevirtual 52, 3) := by decide +kernel
theorem dL_law_507 : decode cL_law 507 = .ok (.aload_n 2, 1) := by decide +kernel
theorem dL_law_508 : decode cL_law 508 = .ok (.aload_n 0, 1) := by decide +kernel
theorem dL_law_509 : decode cL_law 509 = .ok (.iload_n 3, 1) := by decide +kernel
theorem dL_law_510 : decode cL_law 510 = .ok (.iconst 1, 1) := by decide +kernel
theorem dL_law_511 : decode cL_law 511 = .ok (.iadd, 1) := by decide +kernel
theorem dL_law_512 : decode cL_law 512 = .ok (.iaload, 1) := by decide +kernel
theorem dL_law_513 : decode cL_law 513 = .ok (.aload_n 0, 1) := by decide +kernel
theorem dL_law_514 : decode cL_law 514 = .ok (.iload_n 3, 1) := by decide +kernel
theorem dL_law_515 : decode cL_law 515 = .ok (.iconst 2, 1) := by decide +kernel
theorem dL_law_516 : decode cL_law 516 = .ok (.iadd, 1) := by decide +kernel
theorem dL_law_517 : decode cL_law 517 = .ok (.iaload, 1) := by decide +kernel
theorem dL_law_518 : decode cL_law 518 = .ok (.invokevirtual 55, 3) := by decide +kernel
theorem dL_law_521 : decode cL_law 521 = .ok (.if_icmp .eq 732, 3) := by decide +kernel
theorem dL_law_524 : decode cL_law 524 = .ok (.iconst 0, 1) := by decide +kernel
theorem dL_law_525 : decode cL_law 525 = .ok (.ireturn, 1) := by decide +kernel
theorem dL_law_526 : decode cL_law 526 = .ok (.aload_n 1, 1) := by decide +kernel
theorem dL_law_527 : decode cL_law 527 = .ok (.aload_n 0, 1) := by decide +kernel
theorem dL_law_528 : decode cL_law 528 = .ok (.iload_n 3, 1) := by decide +kernel
theorem dL_law_529 : decode cL_law 529 = .ok (.iconst 1, 1) := by decide +kernel
theorem dL_law_530 : decode cL_law 530 = .ok (.iadd, 1) := by decide +kernel
theorem dL_law_531 : decode cL_law 531 = .ok (.iaload, 1) := by decide +kernel
theorem dL_law_532 : decode cL_law 532 = .ok (.invokevirtual 56, 3) := by decide +kernel
theorem dL_law_535 : decode cL_law 535 = .ok (.aload_n 2, 1) := by decide +kernel
theorem dL_law_536 : decode cL_law 536 = .ok (.aload_n 0, 1) := by decide +kernel
theorem dL_law_537 : decode cL_law 537 = .ok (.iload_n 3, 1) := by decide +kernel
theorem dL_law_538 : decode cL_law 538 = .ok (.iconst 1, 1) := by decide +kernel
theorem dL_law_539 : decode cL_law 539 = .ok (.iadd, 1) := by decide +kernel
theorem dL_law_540 : decode cL_law 540 = .ok (.iaload, 1) := by decide +kernel
theorem dL_law_541 : decode cL_law 541 = .ok (.invokevirtual 59, 3) := by decide +kernel
theorem dL_law_544 : decode cL_law 544 = .ok (.if_icmp .eq 709, 3) := by decide +kernel
theorem dL_law_547 : decode cL_law 547 = .ok (.iconst 0, 1) := by decide +kernel
theorem dL_law_548 : decode cL_law 548 = .ok (.ireturn, 1) := by decide +kernel
theorem dL_law_549 : decode cL_law 549 = .ok (.aload_n 1, 1) := by decide +kernel
theorem dL_law_550 : decode cL_law 550 = .ok (.aload_n 0, 1) := by decide +kernel
theorem dL_law_551 : decode cL_law 551 = .ok (.iload_n 3, 1) := by decide +kernel
theorem dL_law_552 : decode cL_law 552 = .ok (.iconst 1, 1) := by decide +kernel
theorem dL_law_553 : decode cL_law 553 = .ok (.iadd, 1) := by decide +kernel
theorem dL_law_554 : decode cL_law 554 = .ok (.iaload, 1) := by decide +kernel
theorem dL_law_555 : decode cL_law 555 = .ok (.invokevirtual 60, 3) := by decide +kernel
theorem dL_law_558 : decode cL_law 558 = .ok (.aload_n 2, 1) := by decide +kernel
theorem dL_law_559 : decode cL_law 559 = .ok (.aload_n 0, 1) := by decide +kernel
theorem dL_law_560 : decode cL_law 560 = .ok (.iload_n 3, 1) := by decide +kernel
theorem dL_law_561 : decode cL_law 561 = .ok (.iconst 1, 1) := by decide +kernel
theorem dL_law_562 : decode cL_law 562 = .ok (.iadd, 1) := by decide +kernel
theorem dL_law_563 : decode cL_law 563 = .ok (.iaload, 1) := by decide +kernel
theorem dL_law_564 : decode cL_law 564 = .ok (.invokevirtual 63, 3) := by decide +kernel
theorem dL_law_567 : decode cL_law 567 = .ok (.if_icmp .eq 686, 3) := by decide +kernel
theorem dL_law_570 : decode cL_law 570 = .ok (.iconst 0, 1) := by decide +kernel
theorem dL_law_571 : decode cL_law 571 = .ok (.ireturn, 1) := by decide +kernel
theorem dL_law_572 : decode cL_law 572 = .ok (.aload_n 1, 1) := by decide +kernel
theorem dL_law_573 : decode cL_law 573 = .ok (.aload_n 0, 1) := by decide +kernel
theorem dL_law_574 : decode cL_law 574 = .ok (.iload_n 3, 1) := by decide +kernel
theorem dL_law_575 : decode cL_law 575 = .ok (.iconst 1, 1) := by decide +kernel
theorem dL_law_576 : decode cL_law 576 = .ok (.iadd, 1) := by decide +kernel
theorem dL_law_577 : decode cL_law 577 = .ok (.iaload, 1) := by decide +kernel
theorem dL_law_578 : decode cL_law 578 = .ok (.aload_n 0, 1) := by decide +kernel
theorem dL_law_579 : decode cL_law 579 = .ok (.iload_n 3, 1) := by decide +kernel
theorem dL_law_580 : decode cL_law 580 = .ok (.iconst 2, 1) := by decide +kernel
theorem dL_law_581 : decode cL_law 581 = .ok (.iadd, 1) := by decide +kernel
theorem dL_law_582 : decode cL_law 582 = .ok (.iaload, 1) := by decide +kernel
theorem dL_law_583 : decode cL_law 583 = .ok (.invokevirtual 64, 3) := by decide +kernel
theorem dL_law_586 : decode cL_law 586 = .ok (.aload_n 2, 1) := by decide +kernel
theorem dL_law_587 : decode cL_law 587 = .ok (.aload_n 0, 1) := by decide +kernel
theorem dL_law_588 : decode cL_law 588 = .ok (.iload_n 3, 1) := by decide +kernel
theorem dL_law_589 : decode cL_law 589 = .ok (.iconst 1, 1) := by decide +kernel
theorem dL_law_590 : decode cL_law 590 = .ok (.iadd, 1) := by decide +kernel
theorem dL_law_591 : decode cL_law 591 = .ok (.iaload, 1) := by decide +kernel
theorem dL_law_592 : decode cL_law 592 = .ok (.aload_n 0, 1) := by decide +kernel
theorem dL_law_593 : decode cL_law 593 = .ok (.iload_n 3, 1) := by decide +kernel
theorem dL_law_594 : decode cL_law 594 = .ok (.iconst 2, 1) := by decide +kernel
theorem dL_law_595 : decode cL_law 595 = .ok (.iadd, 1) := by decide +kernel
theorem dL_law_596 : decode cL_law 596 = .ok (.iaload, 1) := by decide +kernel
theorem dL_law_597 : decode cL_law 597 = .ok (.invokevirtual 67, 3) := by decide +kernel
theorem dL_law_600 : decode cL_law 600 = .ok (.if_icmp .eq 653, 3) := by decide +kernel
theorem dL_law_603 : decode cL_law 603 = .ok (.iconst 0, 1) := by decide +kernel
theorem dL_law_604 : decode cL_law 604 = .ok (.ireturn, 1) := by decide +kernel
theorem dL_law_605 : decode cL_law 605 = .ok (.aload_n 1, 1) := by decide +kernel
theorem dL_law_606 : decode cL_law 606 = .ok (.aload_n 0, 1) := by decide +kernel
theorem dL_law_607 : decode cL_law 607 = .ok (.iload_n 3, 1) := by decide +kernel
theorem dL_law_608 : decode cL_law 608 = .ok (.iconst 1, 1) := by decide +kernel
theorem dL_law_609 : decode cL_law 609 = .ok (.iadd, 1) := by decide +kernel
theorem dL_law_610 : decode cL_law 610 = .ok (.iaload, 1) := by decide +kernel
theorem dL_law_611 : decode cL_law 611 = .ok (.aload_n 0, 1) := by decide +kernel
theorem dL_law_612 : decode cL_law 612 = .ok (.iload_n 3, 1) := by decide +kernel
theorem dL_law_613 : decode cL_law 613 = .ok (.iconst 2, 1) := by decide +kernel
theorem dL_law_614 : decode cL_law 614 = .ok (.iadd, 1) := by decide +kernel
theorem dL_law_615 : decode cL_law 615 = .ok (.iaload, 1) := by decide +kernel
theorem dL_law_616 : decode cL_law 616 = .ok (.aload_n 0, 1) := by decide +kernel
theorem dL_law_617 : decode cL_law 617 = .ok (.iload_n 3, 1) := by decide +kernel
theorem dL_law_618 : decode cL_law 618 = .ok (.iconst 3, 1) := by decide +kernel
theorem dL_law_619 : decode cL_law 619 = .ok (.iadd, 1) := by decide +kernel
theorem dL_law_620 : decode cL_law 620 = .ok (.iaload, 1) := by decide +kernel
theorem dL_law_621 : decode cL_law 621 = .ok (.invokevirtual 68, 3) := by decide +kernel
theorem dL_law_624 : decode cL_law 624 = .ok (.aload_n 2, 1) := by decide +kernel
theorem dL_law_625 : decode cL_law 625 = .ok (.aload_n 0, 1) := by decide +kernel
theorem dL_law_626 : decode cL_law 626 = .ok (.iload_n 3, 1) := by decide +kernel
theorem dL_law_627 : decode cL_law 627 = .ok (.iconst 1, 1) := by decide +kernel
theorem dL_law_628 : decode cL_law 628 = .ok (.iadd, 1) := by decide +kernel
theorem dL_law_629 : decode cL_law 629 = .ok (.iaload, 1) := by decide +kernel
theorem dL_law_630 : decode cL_law 630 = .ok (.aload_n 0, 1) := by decide +kernel
theorem dL_law_631 : decode cL_law 631 = .ok (.iload_n 3, 1) := by decide +kernel
theorem dL_law_632 : decode cL_law 632 = .ok (.iconst 2, 1) := by decide +kernel
theorem dL_law_633 : decode cL_law 633 = .ok (.iadd, 1) := by decide +kernel
theorem dL_law_634 : decode cL_law 634 = .ok (.iaload, 1) := by decide +kernel
theorem dL_law_635 : decode cL_law 635 = .ok (.aload_n 0, 1) := by decide +kernel
theorem dL_law_636 : decode cL_law 636 = .ok (.iload_n 3, 1) := by decide +kernel
theorem dL_law_637 : decode cL_law 637 = .ok (.iconst 3, 1) := by decide +kernel
theorem dL_law_638 : decode cL_law 638 = .ok (.iadd, 1) := by decide +kernel
theorem dL_law_639 : decode cL_law 639 = .ok (.iaload, 1) := by decide +kernel
theorem dL_law_640 : decode cL_law 640 = .ok (.invokevirtual 71, 3) := by decide +kernel
theorem dL_law_643 : decode cL_law 643 = .ok (.if_icmp .eq 610, 3) := by decide +kernel
theorem dL_law_646 : decode cL_law 646 = .ok (.iconst 0, 1) := by decide +kernel
theorem dL_law_647 : decode cL_law 647 = .ok (.ireturn, 1) := by decide +kernel
theorem dL_law_648 : decode cL_law 648 = .ok (.aload_n 1, 1) := by decide +kernel
theorem dL_law_649 : decode cL_law 649 = .ok (.aload_n 0, 1) := by decide +kernel
theorem dL_law_650 : decode cL_law 650 = .ok (.iload_n 3, 1) := by decide +kernel
theorem dL_law_651 : decode cL_law 651 = .ok (.iconst 1, 1) := by decide +kernel
theorem dL_law_652 : decode cL_law 652 = .ok (.iadd, 1) := by decide +kernel
theorem dL_law_653 : decode cL_law 653 = .ok (.iaload, 1) := by decide +kernel
theorem dL_law_654 : decode cL_law 654 = .ok (.aload_n 0, 1) := by decide +kernel
theorem dL_law_655 : decode cL_law 655 = .ok (.iload_n 3, 1) := by decide +kernel
theorem dL_law_656 : decode cL_law 656 = .ok (.iconst 2, 1) := by decide +kernel
theorem dL_law_657 : decode cL_law 657 = .ok (.iadd, 1) := by decide +kernel
theorem dL_law_658 : decode cL_law 658 = .ok (.iaload, 1) := by decide +kernel
theorem dL_law_659 : decode cL_law 659 = .ok (.aload_n 0, 1) := by decide +kernel
theorem dL_law_660 : decode cL_law 660 = .ok (.iload_n 3, 1) := by decide +kernel
theorem dL_law_661 : decode cL_law 661 = .ok (.iconst 3, 1) := by decide +kernel
theorem dL_law_662 : decode cL_law 662 = .ok (.iadd, 1) := by decide +kernel
theorem dL_law_663 : decode cL_law 663 = .ok (.iaload, 1) := by decide +kernel
theorem dL_law_664 : decode cL_law 664 = .ok (.invokevirtual 72, 3) := by decide +kernel
theorem dL_law_667 : decode cL_law 667 = .ok (.aload_n 2, 1) := by decide +kernel
theorem dL_law_668 : decode cL_law 668 = .ok (.aload_n 0, 1) := by decide +kernel
theorem dL_law_669 : decode cL_law 669 = .ok (.iload_n 3, 1) := by decide +kernel
theorem dL_law_670 : decode cL_law 670 = .ok (.iconst 1, 1) := by decide +kernel
theorem dL_law_671 : decode cL_law 671 = .ok (.iadd, 1) := by decide +kernel
theorem dL_law_672 : decode cL_law 672 = .ok (.iaload, 1) := by decide +kernel
theorem dL_law_673 : decode cL_law 673 = .ok (.aload_n 0, 1) := by decide +kernel
theorem dL_law_674 : decode cL_law 674 = .ok (.iload_n 3, 1) := by decide +kernel
theorem dL_law_675 : decode cL_law 675 = .ok (.iconst 2, 1) := by decide +kernel
theorem dL_law_676 : decode cL_law 676 = .ok (.iadd, 1) := by decide +kernel
theorem dL_law_677 : decode cL_law 677 = .ok (.iaload, 1) := by decide +kernel
theorem dL_law_678 : decode cL_law 678 = .ok (.aload_n 0, 1) := by decide +kernel
theorem dL_law_679 : decode cL_law 679 = .ok (.iload_n 3, 1) := by decide +kernel
theorem dL_law_680 : decode cL_law 680 = .ok (.iconst 3, 1) := by decide +kernel
theorem dL_law_681 : decode cL_law 681 = .ok (.iadd, 1) := by decide +kernel
theorem dL_law_682 : decode cL_law 682 = .ok (.iaload, 1) := by decide +kernel
theorem dL_law_683 : decode cL_law 683 = .ok (.invokevirtual 75, 3) := by decide +kernel
theorem dL_law_686 : decode cL_law 686 = .ok (.if_icmp .eq 567, 3) := by decide +kernel
theorem dL_law_689 : decode cL_law 689 = .ok (.iconst 0, 1) := by decide +kernel
theorem dL_law_690 : decode cL_law 690 = .ok (.ireturn, 1) := by decide +kernel
theorem dL_law_691 : decode cL_law 691 = .ok (.aload_n 1, 1) := by decide +kernel
theorem dL_law_692 : decode cL_law 692 = .ok (.aload_n 0, 1) := by decide +kernel
theorem dL_law_693 : decode cL_law 693 = .ok (.iload_n 3, 1) := by decide +kernel
theorem dL_law_694 : decode cL_law 694 = .ok (.iconst 1, 1) := by decide +kernel
theorem dL_law_695 : decode cL_law 695 = .ok (.iadd, 1) := by decide +kernel
theorem dL_law_696 : decode cL_law 696 = .ok (.iaload, 1) := by decide +kernel
theorem dL_law_697 : decode cL_law 697 = .ok (.aload_n 0, 1) := by decide +kernel
theorem dL_law_698 : decode cL_law 698 = .ok (.iload_n 3, 1) := by decide +kernel
theorem dL_law_699 : decode cL_law 699 = .ok (.iconst 2, 1) := by decide +kernel
theorem dL_law_700 : decode cL_law 700 = .ok (.iadd, 1) := by decide +kernel
theorem dL_law_701 : decode cL_law 701 = .ok (.iaload, 1) := by decide +kernel
theorem dL_law_702 : decode cL_law 702 = .ok (.aload_n 0, 1) := by decide +kernel
theorem dL_law_703 : decode cL_law 703 = .ok (.iload_n 3, 1) := by decide +kernel
theorem dL_law_704 : decode cL_law 704 = .ok (.iconst 3, 1) := by decide +kernel
theorem dL_law_705 : decode cL_law 705 = .ok (.iadd, 1) := by decide +kernel
theorem dL_law_706 : decode cL_law 706 = .ok (.iaload, 1) := by decide +kernel
theorem dL_law_707 : decode cL_law 707 = .ok (.invokevirtual 76, 3) := by decide +kernel
theorem dL_law_710 : decode cL_law 710 = .ok (.aload_n 2, 1) := by decide +kernel
theorem dL_law_711 : decode cL_law 711 = .ok (.aload_n 0, 1) := by decide +kernel
theorem dL_law_712 : decode cL_law 712 = .ok (.iload_n 3, 1) := by decide +kernel
theorem dL_law_713 : decode cL_law 713 = .ok (.iconst 1, 1) := by decide +kernel
theorem dL_law_714 : decode cL_law 714 = .ok (.iadd, 1) := by decide +kernel
theorem dL_law_715 : decode cL_law 715 = .ok (.iaload, 1) := by decide +kernel
theorem dL_law_716 : decode cL_law 716 = .ok (.aload_n 0, 1) := by decide +kernel
theorem dL_law_717 : decode cL_law 717 = .ok (.iload_n 3, 1) := by decide +kernel
theorem dL_law_718 : decode cL_law 718 = .ok (.iconst 2, 1) := by decide +kernel
theorem dL_law_719 : decode cL_law 719 = .ok (.iadd, 1) := by decide +kernel
theorem dL_law_720 : decode cL_law 720 = .ok (.iaload, 1) := by decide +kernel
theorem dL_law_721 : decode cL_law 721 = .ok (.aload_n 0, 1) := by decide +kernel
theorem dL_law_722 : decode cL_law 722 = .ok (.iload_n 3, 1) := by decide +kernel
theorem dL_law_723 : decode cL_law 723 = .ok (.iconst 3, 1) := by decide +kernel
theorem dL_law_724 : decode cL_law 724 = .ok (.iadd, 1) := by decide +kernel
theorem dL_law_725 : decode cL_law 725 = .ok (.iaload, 1) := by decide +kernel
theorem dL_law_726 : decode cL_law 726 = .ok (.invokevirtual 79, 3) := by decide +kernel
theorem dL_law_729 : decode cL_law 729 = .ok (.if_icmp .eq 524, 3) := by decide +kernel
theorem dL_law_732 : decode cL_law 732 = .ok (.iconst 0, 1) := by decide +kernel
theorem dL_law_733 : decode cL_law 733 = .ok (.ireturn, 1) := by decide +kernel
theorem dL_law_734 : decode cL_law 734 = .ok (.aload_n 1, 1) := by decide +kernel
theorem dL_law_735 : decode cL_law 735 = .ok (.aload_n 0, 1) := by decide +kernel
theorem dL_law_736 : decode cL_law 736 = .ok (.iload_n 3, 1) := by decide +kernel
theorem dL_law_737 : decode cL_law 737 = .ok (.iconst 1, 1) := by decide +kernel
theorem dL_law_738 : decode cL_law 738 = .ok (.iadd, 1) := by decide +kernel
theorem dL_law_739 : decode cL_law 739 = .ok (.iaload, 1) := by decide +kernel
theorem dL_law_740 : decode cL_law 740 = .ok (.aload_n 0, 1) := by decide +kernel
theorem dL_law_741 : decode cL_law 741 = .ok (.iload_n 3, 1) := by decide +kernel
theorem dL_law_742 : decode cL_law 742 = .ok (.iconst 2, 1) := by decide +kernel
theorem dL_law_743 : decode cL_law 743 = .ok (.iadd, 1) := by decide +kernel
theorem dL_law_744 : decode cL_law 744 = .ok (.iaload, 1) := by decide +kernel
theorem dL_law_745 : decode cL_law 745 = .ok (.aload_n 0, 1) := by decide +kernel
theorem dL_law_746 : decode cL_law 746 = .ok (.iload_n 3, 1) := by decide +kernel
theorem dL_law_747 : decode cL_law 747 = .ok (.iconst 3, 1) := by decide +kernel
theorem dL_law_748 : decode cL_law 748 = .ok (.iadd, 1) := by decide +kernel
theorem dL_law_749 : decode cL_law 749 = .ok (.iaload, 1) := by decide +kernel
theorem dL_law_750 : decode cL_law 750 = .ok (.invokevirtual 80, 3) := by decide +kernel
theorem dL_law_753 : decode cL_law 753 = .ok (.aload_n 2, 1) := by decide +kernel
theorem dL_law_754 : decode cL_law 754 = .ok (.aload_n 0, 1) := by decide +kernel
theorem dL_law_755 : decode cL_law 755 = .ok (.iload_n 3, 1) := by decide +kernel
theorem dL_law_756 : decode cL_law 756 = .ok (.iconst 1, 1) := by decide +kernel
theorem dL_law_757 : decode cL_law 757 = .ok (.iadd, 1) := by decide +kernel
theorem dL_law_758 : decode cL_law 758 = .ok (.iaload, 1) := by decide +kernel
theorem dL_law_759 : decode cL_law 759 = .ok (.aload_n 0, 1) := by decide +kernel
theorem dL_law_760 : decode cL_law 760 = .ok (.iload_n 3, 1) := by decide +kernel
theorem dL_law_761 : decode cL_law 761 = .ok (.iconst 2, 1) := by decide +kernel
theorem dL_law_762 : decode cL_law 762 = .ok (.iadd, 1) := by decide +kernel
theorem dL_law_763 : decode cL_law 763 = .ok (.iaload, 1) := by decide +kernel
theorem dL_law_764 : decode cL_law 764 = .ok (.aload_n 0, 1) := by decide +kernel
theorem dL_law_765 : decode cL_law 765 = .ok (.iload_n 3, 1) := by decide +kernel
theorem dL_law_766 : decode cL_law 766 = .ok (.iconst 3, 1) := by decide +kernel
theorem dL_law_767 : decode cL_law 767 = .ok (.iadd, 1) := by decide +kernel
theorem dL_law_768 : decode cL_law 768 = .ok (.iaload, 1) := by decide +kernel
theorem dL_law_769 : decode cL_law 769 = .ok (.invokevirtual 83, 3) := by decide +kernel
theorem dL_law_772 : decode cL_law 772 = .ok (.if_icmp .eq 481, 3) := by decide +kernel
theorem dL_law_775 : decode cL_law 775 = .ok (.iconst 0, 1) := by decide +kernel
theorem dL_law_776 : decode cL_law 776 = .ok (.ireturn, 1) := by decide +kernel
theorem dL_law_777 : decode cL_law 777 = .ok (.aload_n 1, 1) := by decide +kernel
theorem dL_law_778 : decode cL_law 778 = .ok (.aload_n 0, 1) := by decide +kernel
theorem dL_law_779 : decode cL_law 779 = .ok (.iload_n 3, 1) := by decide +kernel
theorem dL_law_780 : decode cL_law 780 = .ok (.iconst 1, 1) := by decide +kernel
theorem dL_law_781 : decode cL_law 781 = .ok (.iadd, 1) := by decide +kernel
theorem dL_law_782 : decode cL_law 782 = .ok (.iaload, 1) := by decide +kernel
theorem dL_law_783 : decode cL_law 783 = .ok (.aload_n 0, 1) := by decide +kernel
theorem dL_law_784 : decode cL_law 784 = .ok (.iload_n 3, 1) := by decide +kernel
theorem dL_law_785 : decode cL_law 785 = .ok (.iconst 2, 1) := by decide +kernel
theorem dL_law_786 : decode cL_law 786 = .ok (.iadd, 1) := by decide +kernel
theorem dL_law_787 : decode cL_law 787 = .ok (.iaload, 1) := by decide +kernel
theorem dL_law_788 : decode cL_law 788 = .ok (.invokevirtual 84, 3) := by decide +kernel
theorem dL_law_791 : decode cL_law 791 = .ok (.aload_n 2, 1) := by decide +kernel
theorem dL_law_792 : decode cL_law 792 = .ok (.aload_n 0, 1) := by decide +kernel
theorem dL_law_793 : decode cL_law 793 = .ok (.iload_n 3, 1) := by decide +kernel
theorem dL_law_794 : decode cL_law 794 = .ok (.iconst 1, 1) := by decide +kernel
theorem dL_law_795 : decode cL_law 795 = .ok (.iadd, 1) := by decide +kernel
theorem dL_law_796 : decode cL_law 796 = .ok (.iaload, 1) := by decide +kernel
theorem dL_law_797 : decode cL_law 797 = .ok (.aload_n 0, 1) := by decide +kernel
theorem dL_law_798 : decode cL_law 798 = .ok (.iload_n 3, 1) := by decide +kernel
theorem dL_law_799 : decode cL_law 799 = .ok (.iconst 2, 1) := by decide +kernel
theorem dL_law_800 : decode cL_law 800 = .ok (.iadd, 1) := by decide +kernel
theorem dL_law_801 : decode cL_law 801 = .ok (.iaload, 1) := by decide +kernel
theorem dL_law_802 : decode cL_law 802 = .ok (.invokevirtual 87, 3) := by decide +kernel
theorem dL_law_805 : decode cL_law 805 = .ok (.if_icmp .eq 448, 3) := by decide +kernel
theorem dL_law_808 : decode cL_law 808 = .ok (.iconst 0, 1) := by decide +kernel
theorem dL_law_809 : decode cL_law 809 = .ok (.ireturn, 1) := by decide +kernel
theorem dL_law_810 : decode cL_law 810 = .ok (.aload_n 1, 1) := by decide +kernel
theorem dL_law_811 : decode cL_law 811 = .ok (.aload_n 0, 1) := by decide +kernel
theorem dL_law_812 : decode cL_law 812 = .ok (.iload_n 3, 1) := by decide +kernel
theorem dL_law_813 : decode cL_law 813 = .ok (.iconst 1, 1) := by decide +kernel
theorem dL_law_814 : decode cL_law 814 = .ok (.iadd, 1) := by decide +kernel
theorem dL_law_815 : decode cL_law 815 = .ok (.iaload, 1) := by decide +kernel
theorem dL_law_816 : decode cL_law 816 = .ok (.invokevirtual 88, 3) := by decide +kernel
theorem dL_law_819 : decode cL_law 819 = .ok (.aload_n 2, 1) := by decide +kernel
theorem dL_law_820 : decode cL_law 820 = .ok (.aload_n 0, 1) := by decide +kernel
theorem dL_law_821 : decode cL_law 821 = .ok (.iload_n 3, 1) := by decide +kernel
theorem dL_law_822 : decode cL_law 822 = .ok (.iconst 1, 1) := by decide +kernel
theorem dL_law_823 : decode cL_law 823 = .ok (.iadd, 1) := by decide +kernel
theorem dL_law_824 : decode cL_law 824 = .ok (.iaload, 1) := by decide +kernel
theorem dL_law_825 : decode cL_law 825 = .ok (.invokevirtual 91, 3) := by decide +kernel
theorem dL_law_828 : decode cL_law 828 = .ok (.if_icmp .eq 425, 3) := by decide +kernel
theorem dL_law_831 : decode cL_law 831 = .ok (.iconst 0, 1) := by decide +kernel
theorem dL_law_832 : decode cL_law 832 = .ok (.ireturn, 1) := by decide +kernel
theorem dL_law_833 : decode cL_law 833 = .ok (.aload_n 1, 1) := by decide +kernel
theorem dL_law_834 : decode cL_law 834 = .ok (.aload_n 0, 1) := by decide +kernel
theorem dL_law_835 : decode cL_law 835 = .ok (.iload_n 3, 1) := by decide +kernel
theorem dL_law_836 : decode cL_law 836 = .ok (.iconst 1, 1) := by decide +kernel
theorem dL_law_837 : decode cL_law 837 = .ok (.iadd, 1) := by decide +kernel
theorem dL_law_838 : decode cL_law 838 = .ok (.iaload, 1) := by decide +kernel
theorem dL_law_839 : decode cL_law 839 = .ok (.aload_n 0, 1) := by decide +kernel
theorem dL_law_840 : decode cL_law 840 = .ok (.iload_n 3, 1) := by decide +kernel
theorem dL_law_841 : decode cL_law 841 = .ok (.iconst 2, 1) := by decide +kernel
theorem dL_law_842 : decode cL_law 842 = .ok (.iadd, 1) := by decide +kernel
theorem dL_law_843 : decode cL_law 843 = .ok (.iaload, 1) := by decide +kernel
theorem dL_law_844 : decode cL_law 844 = .ok (.aload_n 0, 1) := by decide +kernel
theorem dL_law_845 : decode cL_law 845 = .ok (.iload_n 3, 1) := by decide +kernel
theorem dL_law_846 : decode cL_law 846 = .ok (.iconst 3, 1) := by decide +kernel
theorem dL_law_847 : decode cL_law 847 = .ok (.iadd, 1) := by decide +kernel
theorem dL_law_848 : decode cL_law 848 = .ok (.iaload, 1) := by decide +kernel
theorem dL_law_849 : decode cL_law 849 = .ok (.invokevirtual 92, 3) := by decide +kernel
theorem dL_law_852 : decode cL_law 852 = .ok (.aload_n 2, 1) := by decide +kernel
theorem dL_law_853 : decode cL_law 853 = .ok (.aload_n 0, 1) := by decide +kernel
theorem dL_law_854 : decode cL_law 854 = .ok (.iload_n 3, 1) := by decide +kernel
theorem dL_law_855 : decode cL_law 855 = .ok (.iconst 1, 1) := by decide +kernel
theorem dL_law_856 : decode cL_law 856 = .ok (.iadd, 1) := by decide +kernel
theorem dL_law_857 : decode cL_law 857 = .ok (.iaload, 1) := by decide +kernel
theorem dL_law_858 : decode cL_law 858 = .ok (.aload_n 0, 1) := by decide +kernel
theorem dL_law_859 : decode cL_law 859 = .ok (.iload_n 3, 1) := by decide +kernel
theorem dL_law_860 : decode cL_law 860 = .ok (.iconst 2, 1) := by decide +kernel
theorem dL_law_861 : decode cL_law 861 = .ok (.iadd, 1) := by decide +kernel
theorem dL_law_862 : decode cL_law 862 = .ok (.iaload, 1) := by decide +kernel
theorem dL_law_863 : decode cL_law 863 = .ok (.aload_n 0, 1) := by decide +kernel
theorem dL_law_864 : decode cL_law 864 = .ok (.iload_n 3, 1) := by decide +kernel
theorem dL_law_865 : decode cL_law 865 = .ok (.iconst 3, 1) := by decide +kernel
theorem dL_law_866 : decode cL_law 866 = .ok (.iadd, 1) := by decide +kernel
theorem dL_law_867 : decode cL_law 867 = .ok (.iaload, 1) := by decide +kernel
theorem dL_law_868 : decode cL_law 868 = .ok (.invokevirtual 95, 3) := by decide +kernel
theorem dL_law_871 : decode cL_law 871 = .ok (.if_icmp .eq 382, 3) := by decide +kernel
theorem dL_law_874 : decode cL_law 874 = .ok (.iconst 0, 1) := by decide +kernel
theorem dL_law_875 : decode cL_law 875 = .ok (.ireturn, 1) := by decide +kernel
theorem dL_law_876 : decode cL_law 876 = .ok (.aload_n 1, 1) := by decide +kernel
theorem dL_law_877 : decode cL_law 877 = .ok (.aload_n 0, 1) := by decide +kernel
theorem dL_law_878 : decode cL_law 878 = .ok (.iload_n 3, 1) := by decide +kernel
theorem dL_law_879 : decode cL_law 879 = .ok (.iconst 1, 1) := by decide +kernel
theorem dL_law_880 : decode cL_law 880 = .ok (.iadd, 1) := by decide +kernel
theorem dL_law_881 : decode cL_law 881 = .ok (.iaload, 1) := by decide +kernel
theorem dL_law_882 : decode cL_law 882 = .ok (.invokevirtual 96, 3) := by decide +kernel
theorem dL_law_885 : decode cL_law 885 = .ok (.aload_n 2, 1) := by decide +kernel
theorem dL_law_886 : decode cL_law 886 = .ok (.aload_n 0, 1) := by decide +kernel
theorem dL_law_887 : decode cL_law 887 = .ok (.iload_n 3, 1) := by decide +kernel
theorem dL_law_888 : decode cL_law 888 = .ok (.iconst 1, 1) := by decide +kernel
theorem dL_law_889 : decode cL_law 889 = .ok (.iadd, 1) := by decide +kernel
theorem dL_law_890 : decode cL_law 890 = .ok (.iaload, 1) := by decide +kernel
theorem dL_law_891 : decode cL_law 891 = .ok (.invokevirtual 99, 3) := by decide +kernel
theorem dL_law_894 : decode cL_law 894 = .ok (.if_icmp .eq 359, 3) := by decide +kernel
theorem dL_law_897 : decode cL_law 897 = .ok (.iconst 0, 1) := by decide +kernel
theorem dL_law_898 : decode cL_law 898 = .ok (.ireturn, 1) := by decide +kernel
theorem dL_law_899 : decode cL_law 899 = .ok (.aload_n 1, 1) := by decide +kernel
theorem dL_law_900 : decode cL_law 900 = .ok (.aload_n 0, 1) := by decide +kernel
theorem dL_law_901 : decode cL_law 901 = .ok (.iload_n 3, 1) := by decide +kernel
theorem dL_law_902 : decode cL_law 902 = .ok (.iconst 1, 1) := by decide +kernel
theorem dL_law_903 : decode cL_law 903 = .ok (.iadd, 1) := by decide +kernel
theorem dL_law_904 : decode cL_law 904 = .ok (.iaload, 1) := by decide +kernel
theorem dL_law_905 : decode cL_law 905 = .ok (.aload_n 0, 1) := by decide +kernel
theorem dL_law_906 : decode cL_law 906 = .ok (.iload_n 3, 1) := by decide +kernel
theorem dL_law_907 : decode cL_law 907 = .ok (.iconst 2, 1) := by decide +kernel
theorem dL_law_908 : decode cL_law 908 = .ok (.iadd, 1) := by decide +kernel
theorem dL_law_909 : decode cL_law 909 = .ok (.iaload, 1) := by decide +kernel
theorem dL_law_910 : decode cL_law 910 = .ok (.invokevirtual 100, 3) := by decide +kernel
theorem dL_law_913 : decode cL_law 913 = .ok (.aload_n 2, 1) := by decide +kernel
theorem dL_law_914 : decode cL_law 914 = .ok (.aload_n 0, 1) := by decide +kernel
theorem dL_law_915 : decode cL_law 915 = .ok (.iload_n 3, 1) := by decide +kernel
theorem dL_law_916 : decode cL_law 916 = .ok (.iconst 1, 1) := by decide +kernel
theorem dL_law_917 : decode cL_law 917 = .ok (.iadd, 1) := by decide +kernel
theorem dL_law_918 : decode cL_law 918 = .ok (.iaload, 1) := by decide +kernel
theorem dL_law_919 : decode cL_law 919 = .ok (.aload_n 0, 1) := by decide +kernel
theorem dL_law_920 : decode cL_law 920 = .ok (.iload_n 3, 1) := by decide +kernel
theorem dL_law_921 : decode cL_law 921 = .ok (.iconst 2, 1) := by decide +kernel
theorem dL_law_922 : decode cL_law 922 = .ok (.iadd, 1) := by decide +kernel
theorem dL_law_923 : decode cL_law 923 = .ok (.iaload, 1) := by decide +kernel
theorem dL_law_924 : decode cL_law 924 = .ok (.invokevirtual 103, 3) := by decide +kernel
theorem dL_law_927 : decode cL_law 927 = .ok (.if_icmp .eq 326, 3) := by decide +kernel
theorem dL_law_930 : decode cL_law 930 = .ok (.iconst 0, 1) := by decide +kernel
theorem dL_law_931 : decode cL_law 931 = .ok (.ireturn, 1) := by decide +kernel
theorem dL_law_932 : decode cL_law 932 = .ok (.aload_n 1, 1) := by decide +kernel
theorem dL_law_933 : decode cL_law 933 = .ok (.aload_n 0, 1) := by decide +kernel
theorem dL_law_934 : decode cL_law 934 = .ok (.iload_n 3, 1) := by decide +kernel
theorem dL_law_935 : decode cL_law 935 = .ok (.iconst 1, 1) := by decide +kernel
theorem dL_law_936 : decode cL_law 936 = .ok (.iadd, 1) := by decide +kernel
theorem dL_law_937 : decode cL_law 937 = .ok (.iaload, 1) := by decide +kernel
theorem dL_law_938 : decode cL_law 938 = .ok (.aload_n 0, 1) := by decide +kernel
theorem dL_law_939 : decode cL_law 939 = .ok (.iload_n 3, 1) := by decide +kernel
theorem dL_law_940 : decode cL_law 940 = .ok (.iconst 2, 1) := by decide +kernel
theorem dL_law_941 : decode cL_law 941 = .ok (.iadd, 1) := by decide +kernel
theorem dL_law_942 : decode cL_law 942 = .ok (.iaload, 1) := by decide +kernel
theorem dL_law_943 : decode cL_law 943 = .ok (.invokevirtual 104, 3) := by decide +kernel
theorem dL_law_946 : decode cL_law 946 = .ok (.aload_n 2, 1) := by decide +kernel
theorem dL_law_947 : decode cL_law 947 = .ok (.aload_n 0, 1) := by decide +kernel
theorem dL_law_948 : decode cL_law 948 = .ok (.iload_n 3, 1) := by decide +kernel
theorem dL_law_949 : decode cL_law 949 = .ok (.iconst 1, 1) := by decide +kernel
theorem dL_law_950 : decode cL_law 950 = .ok (.iadd, 1) := by decide +kernel
theorem dL_law_951 : decode cL_law 951 = .ok (.iaload, 1) := by decide +kernel
theorem dL_law_952 : decode cL_law 952 = .ok (.aload_n 0, 1) := by decide +kernel
theorem dL_law_953 : decode cL_law 953 = .ok (.iload_n 3, 1) := by decide +kernel
theorem dL_law_954 : decode cL_law 954 = .ok (.iconst 2, 1) := by decide +kernel
theorem dL_law_955 : decode cL_law 955 = .ok (.iadd, 1) := by decide +kernel
theorem dL_law_956 : decode cL_law 956 = .ok (.iaload, 1) := by decide +kernel
theorem dL_law_957 : decode cL_law 957 = .ok (.invokevirtual 107, 3) := by decide +kernel
theorem dL_law_960 : decode cL_law 960 = .ok (.if_icmp .eq 293, 3) := by decide +kernel
theorem dL_law_963 : decode cL_law 963 = .ok (.iconst 0, 1) := by decide +kernel
theorem dL_law_964 : decode cL_law 964 = .ok (.ireturn, 1) := by decide +kernel
theorem dL_law_965 : decode cL_law 965 = .ok (.aload_n 1, 1) := by decide +kernel
theorem dL_law_966 : decode cL_law 966 = .ok (.aload_n 0, 1) := by decide +kernel
theorem dL_law_967 : decode cL_law 967 = .ok (.iload_n 3, 1) := by decide +kernel
theorem dL_law_968 : decode cL_law 968 = .ok (.iconst 1, 1) := by decide +kernel
theorem dL_law_969 : decode cL_law 969 = .ok (.iadd, 1) := by decide +kernel
theorem dL_law_970 : decode cL_law 970 = .ok (.iaload, 1) := by decide +kernel
theorem dL_law_971 : decode cL_law 971 = .ok (.aload_n 0, 1) := by decide +kernel
theorem dL_law_972 : decode cL_law 972 = .ok (.iload_n 3, 1) := by decide +kernel
theorem dL_law_973 : decode cL_law 973 = .ok (.iconst 2, 1) := by decide +kernel
theorem dL_law_974 : decode cL_law 974 = .ok (.iadd, 1) := by decide +kernel
theorem dL_law_975 : decode cL_law 975 = .ok (.iaload, 1) := by decide +kernel
theorem dL_law_976 : decode cL_law 976 = .ok (.invokevirtual 108, 3) := by decide +kernel
theorem dL_law_979 : decode cL_law 979 = .ok (.aload_n 2, 1) := by decide +kernel
theorem dL_law_980 : decode cL_law 980 = .ok (.aload_n 0, 1) := by decide +kernel
theorem dL_law_981 : decode cL_law 981 = .ok (.iload_n 3, 1) := by decide +kernel
theorem dL_law_982 : decode cL_law 982 = .ok (.iconst 1, 1) := by decide +kernel
theorem dL_law_983 : decode cL_law 983 = .ok (.iadd, 1) := by decide +kernel
theorem dL_law_984 : decode cL_law 984 = .ok (.iaload, 1) := by decide +kernel
theorem dL_law_985 : decode cL_law 985 = .ok (.aload_n 0, 1) := by decide +kernel
theorem dL_law_986 : decode cL_law 986 = .ok (.iload_n 3, 1) := by decide +kernel
theorem dL_law_987 : decode cL_law 987 = .ok (.iconst 2, 1) := by decide +kernel
theorem dL_law_988 : decode cL_law 988 = .ok (.iadd, 1) := by decide +kernel
theorem dL_law_989 : decode cL_law 989 = .ok (.iaload, 1) := by decide +kernel
theorem dL_law_990 : decode cL_law 990 = .ok (.invokevirtual 111, 3) := by decide +kernel
theorem dL_law_993 : decode cL_law 993 = .ok (.if_icmp .eq 260, 3) := by decide +kernel
theorem dL_law_996 : decode cL_law 996 = .ok (.iconst 0, 1) := by decide +kernel
theorem dL_law_997 : decode cL_law 997 = .ok (.ireturn, 1) := by decide +kernel
theorem dL_law_998 : decode cL_law 998 = .ok (.aload_n 1, 1) := by decide +kernel
theorem dL_law_999 : decode cL_law 999 = .ok (.aload_n 0, 1) := by decide +kernel
theorem dL_law_1000 : decode cL_law 1000 = .ok (.iload_n 3, 1) := by decide +kernel
theorem dL_law_1001 : decode cL_law 1001 = .ok (.iconst 1, 1) := by decide +kernel
theorem dL_law_1002 : decode cL_law 1002 = .ok (.iadd, 1) := by decide +kernel
theorem dL_law_1003 : decode cL_law 1003 = .ok (.iaload, 1) := by decide +kernel
theorem dL_law_1004 : decode cL_law 1004 = .ok (.aload_n 0, 1) := by decide +kernel
theorem dL_law_1005 : decode cL_law 1005 = .ok (.iload_n 3, 1) := by decide +kernel
theorem dL_law_1006 : decode cL_law 1006 = .ok (.iconst 2, 1) := by decide +kernel
theorem dL_law_1007 : decode cL_law 1007 = .ok (.iadd, 1) := by decide +kernel
theorem dL_law_1008 : decode cL_law 1008 = .ok (.iaload, 1) := by decide +kernel
theorem dL_law_1009 : decode cL_law 1009 = .ok (.aload_n 0, 1) := by decide +kernel
theorem dL_law_1010 : decode cL_law 1010 = .ok (.iload_n 3, 1) := by decide +kernel
theorem dL_law_1011 : decode cL_law 1011 = .ok (.iconst 3, 1) := by decide +kernel
theorem dL_law_1012 : decode cL_law 1012 = .ok (.iadd, 1) := by decide +kernel
theorem dL_law_1013 : decode cL_law 1013 = .ok (.iaload, 1) := by decide +kernel
theorem dL_law_1014 : decode cL_law 1014 = .ok (.aload_n 0, 1) := by decide +kernel
theorem dL_law_1015 : decode cL_law 1015 = .ok (.iload_n 3, 1) := by decide +kernel
theorem dL_law_1016 : decode cL_law 1016 = .ok (.iconst 4, 1) := by decide +kernel
theorem dL_law_1017 : decode cL_law 1017 = .ok (.iadd, 1) := by decide +kernel
theorem dL_law_1018 : decode cL_law 1018 = .ok (.iaload, 1) := by decide +kernel
theorem dL_law_1019 : decode cL_law 1019 = .ok (.invokevirtual 112, 3) := by decide +kernel
theorem dL_law_1022 : decode cL_law 1022 = .ok (.aload_n 2, 1) := by decide +kernel
theorem dL_law_1023 : decode cL_law 1023 = .ok (.aload_n 0, 1) := by decide +kernel
theorem dL_law_1024 : decode cL_law 1024 = .ok (.iload_n 3, 1) := by decide +kernel
theorem dL_law_1025 : decode cL_law 1025 = .ok (.iconst 1, 1) := by decide +kernel
theorem dL_law_1026 : decode cL_law 1026 = .ok (.iadd, 1) := by decide +kernel
theorem dL_law_1027 : decode cL_law 1027 = .ok (.iaload, 1) := by decide +kernel
theorem dL_law_1028 : decode cL_law 1028 = .ok (.aload_n 0, 1) := by decide +kernel
theorem dL_law_1029 : decode cL_law 1029 = .ok (.iload_n 3, 1) := by decide +kernel
theorem dL_law_1030 : decode cL_law 1030 = .ok (.iconst 2, 1) := by decide +kernel
theorem dL_law_1031 : decode cL_law 1031 = .ok (.iadd, 1) := by decide +kernel
theorem dL_law_1032 : decode cL_law 1032 = .ok (.iaload, 1) := by decide +kernel
theorem dL_law_1033 : decode cL_law 1033 = .ok (.aload_n 0, 1) := by decide +kernel
theorem dL_law_1034 : decode cL_law 1034 = .ok (.iload_n 3, 1) := by decide +kernel
theorem dL_law_1035 : decode cL_law 1035 = .ok (.iconst 3, 1) := by decide +kernel
theorem dL_law_1036 : decode cL_law 1036 = .ok (.iadd, 1) := by decide +kernel
theorem dL_law_1037 : decode cL_law 1037 = .ok (.iaload, 1) := by decide +kernel
theorem dL_law_1038 : decode cL_law 1038 = .ok (.aload_n 0, 1) := by decide +kernel
theorem dL_law_1039 : decode cL_law 1039 = .ok (.iload_n 3, 1) := by decide +kernel
theorem dL_law_1040 : decode cL_law 1040 = .ok (.iconst 4, 1) := by decide +kernel
theorem dL_law_1041 : decode cL_law 1041 = .ok (.iadd, 1) := by decide +kernel
theorem dL_law_1042 : decode cL_law 1042 = .ok (.iaload, 1) := by decide +kernel
theorem dL_law_1043 : decode cL_law 1043 = .ok (.invokevirtual 116, 3) := by decide +kernel
theorem dL_law_1046 : decode cL_law 1046 = .ok (.if_icmp .eq 207, 3) := by decide +kernel
theorem dL_law_1049 : decode cL_law 1049 = .ok (.iconst 0, 1) := by decide +kernel
theorem dL_law_1050 : decode cL_law 1050 = .ok (.ireturn, 1) := by decide +kernel
theorem dL_law_1051 : decode cL_law 1051 = .ok (.aload_n 1, 1) := by decide +kernel
theorem dL_law_1052 : decode cL_law 1052 = .ok (.aload_n 0, 1) := by decide +kernel
theorem dL_law_1053 : decode cL_law 1053 = .ok (.iload_n 3, 1) := by decide +kernel
theorem dL_law_1054 : decode cL_law 1054 = .ok (.iconst 1, 1) := by decide +kernel
theorem dL_law_1055 : decode cL_law 1055 = .ok (.iadd, 1) := by decide +kernel
theorem dL_law_1056 : decode cL_law 1056 = .ok (.iaload, 1) := by decide +kernel
theorem dL_law_1057 : decode cL_law 1057 = .ok (.aload_n 0, 1) := by decide +kernel
theorem dL_law_1058 : decode cL_law 1058 = .ok (.iload_n 3, 1) := by decide +kernel
theorem dL_law_1059 : decode cL_law 1059 = .ok (.iconst 2, 1) := by decide +kernel
theorem dL_law_1060 : decode cL_law 1060 = .ok (.iadd, 1) := by decide +kernel
theorem dL_law_1061 : decode cL_law 1061 = .ok (.iaload, 1) := by decide +kernel
theorem dL_law_1062 : decode cL_law 1062 = .ok (.aload_n 0, 1) := by decide +kernel
theorem dL_law_1063 : decode cL_law 1063 = .ok (.iload_n 3, 1) := by decide +kernel
theorem dL_law_1064 : decode cL_law 1064 = .ok (.iconst 3, 1) := by decide +kernel
theorem dL_law_1065 : decode cL_law 1065 = .ok (.iadd, 1) := by decide +kernel
theorem dL_law_1066 : decode cL_law 1066 = .ok (.iaload, 1) := by decide +kernel
theorem dL_law_1067 : decode cL_law 1067 = .ok (.aload_n 0, 1) := by decide +kernel
theorem dL_law_1068 : decode cL_law 1068 = .ok (.iload_n 3, 1) := by decide +kernel
theorem dL_law_1069 : decode cL_law 1069 = .ok (.iconst 4, 1) := by decide +kernel
theorem dL_law_1070 : decode cL_law 1070 = .ok (.iadd, 1) := by decide +kernel
theorem dL_law_1071 : decode cL_law 1071 = .ok (.iaload, 1) := by decide +kernel
theorem dL_law_1072 : decode cL_law 1072 = .ok (.aload_n 0, 1) := by decide +kernel
theorem dL_law_1073 : decode cL_law 1073 = .ok (.iload_n 3, 1) := by decide +kernel
theorem dL_law_1074 : decode cL_law 1074 = .ok (.iconst 5, 1) := by decide +kernel
theorem dL_law_1075 : decode cL_law 1075 = .ok (.iadd, 1) := by decide +kernel
theorem dL_law_1076 : decode cL_law 1076 = .ok (.iaload, 1) := by decide +kernel
theorem dL_law_1077 : decode cL_law 1077 = .ok (.invokevirtual 117, 3) := by decide +kernel
theorem dL_law_1080 : decode cL_law 1080 = .ok (.aload_n 2, 1) := by decide +kernel
theorem dL_law_1081 : decode cL_law 1081 = .ok (.aload_n 0, 1) := by decide +kernel
theorem dL_law_1082 : decode cL_law 1082 = .ok (.iload_n 3, 1) := by decide +kernel
theorem dL_law_1083 : decode cL_law 1083 = .ok (.iconst 1, 1) := by decide +kernel
theorem dL_law_1084 : decode cL_law 1084 = .ok (.iadd, 1) := by decide +kernel
theorem dL_law_1085 : decode cL_law 1085 = .ok (.iaload, 1) := by decide +kernel
theorem dL_law_1086 : decode cL_law 1086 = .ok (.aload_n 0, 1) := by decide +kernel
theorem dL_law_1087 : decode cL_law 1087 = .ok (.iload_n 3, 1) := by decide +kernel
theorem dL_law_1088 : decode cL_law 1088 = .ok (.iconst 2, 1) := by decide +kernel
theorem dL_law_1089 : decode cL_law 1089 = .ok (.iadd, 1) := by decide +kernel
theorem dL_law_1090 : decode cL_law 1090 = .ok (.iaload, 1) := by decide +kernel
theorem dL_law_1091 : decode cL_law 1091 = .ok (.aload_n 0, 1) := by decide +kernel
theorem dL_law_1092 : decode cL_law 1092 = .ok (.iload_n 3, 1) := by decide +kernel
theorem dL_law_1093 : decode cL_law 1093 = .ok (.iconst 3, 1) := by decide +kernel
theorem dL_law_1094 : decode cL_law 1094 = .ok (.iadd, 1) := by decide +kernel
theorem dL_law_1095 : decode cL_law 1095 = .ok (.iaload, 1) := by decide +kernel
theorem dL_law_1096 : decode cL_law 1096 = .ok (.aload_n 0, 1) := by decide +kernel
theorem dL_law_1097 : decode cL_law 1097 = .ok (.iload_n 3, 1) := by decide +kernel
theorem dL_law_1098 : decode cL_law 1098 = .ok (.iconst 4, 1) := by decide +kernel
theorem dL_law_1099 : decode cL_law 1099 = .ok (.iadd, 1) := by decide +kernel
theorem dL_law_1100 : decode cL_law 1100 = .ok (.iaload, 1) := by decide +kernel
theorem dL_law_1101 : decode cL_law 1101 = .ok (.aload_n 0, 1) := by decide +kernel
theorem dL_law_1102 : decode cL_law 1102 = .ok (.iload_n 3, 1) := by decide +kernel
theorem dL_law_1103 : decode cL_law 1103 = .ok (.iconst 5, 1) := by decide +kernel
theorem dL_law_1104 : decode cL_law 1104 = .ok (.iadd, 1) := by decide +kernel
theorem dL_law_1105 : decode cL_law 1105 = .ok (.iaload, 1) := by decide +kernel
theorem dL_law_1106 : decode cL_law 1106 = .ok (.invokevirtual 121, 3) := by decide +kernel
theorem dL_law_1109 : decode cL_law 1109 = .ok (.if_icmp .eq 144, 3) := by decide +kernel
theorem dL_law_1112 : decode cL_law 1112 = .ok (.iconst 0, 1) := by decide +kernel
theorem dL_law_1113 : decode cL_law 1113 = .ok (.ireturn, 1) := by decide +kernel
theorem dL_law_1114 : decode cL_law 1114 = .ok (.aload_n 1, 1) := by decide +kernel
theorem dL_law_1115 : decode cL_law 1115 = .ok (.aload_n 0, 1) := by decide +kernel
theorem dL_law_1116 : decode cL_law 1116 = .ok (.iload_n 3, 1) := by decide +kernel
theorem dL_law_1117 : decode cL_law 1117 = .ok (.iconst 1, 1) := by decide +kernel
theorem dL_law_1118 : decode cL_law 1118 = .ok (.iadd, 1) := by decide +kernel
theorem dL_law_1119 : decode cL_law 1119 = .ok (.iaload, 1) := by decide +kernel
theorem dL_law_1120 : decode cL_law 1120 = .ok (.invokevirtual 122, 3) := by decide +kernel
theorem dL_law_1123 : decode cL_law 1123 = .ok (.aload_n 2, 1) := by decide +kernel
theorem dL_law_1124 : decode cL_law 1124 = .ok (.aload_n 0, 1) := by decide +kernel
theorem dL_law_1125 : decode cL_law 1125 = .ok (.iload_n 3, 1) := by decide +kernel
theorem dL_law_1126 : decode cL_law 1126 = .ok (.iconst 1, 1) := by decide +kernel
theorem dL_law_1127 : decode cL_law 1127 = .ok (.iadd, 1) := by decide +kernel
theorem dL_law_1128 : decode cL_law 1128 = .ok (.iaload, 1) := by decide +kernel
theorem dL_law_1129 : decode cL_law 1129 = .ok (.invokevirtual 125, 3) := by decide +kernel
theorem dL_law_1132 : decode cL_law 1132 = .ok (.if_icmp .eq 121, 3) := by decide +kernel
theorem dL_law_1135 : decode cL_law 1135 = .ok (.iconst 0, 1) := by decide +kernel
theorem dL_law_1136 : decode cL_law 1136 = .ok (.ireturn, 1) := by decide +kernel
theorem dL_law_1137 : decode cL_law 1137 = .ok (.aload_n 1, 1) := by decide +kernel
theorem dL_law_1138 : decode cL_law 1138 = .ok (.aload_n 0, 1) := by decide +kernel
theorem dL_law_1139 : decode cL_law 1139 = .ok (.iload_n 3, 1) := by decide +kernel
theorem dL_law_1140 : decode cL_law 1140 = .ok (.iconst 1, 1) := by decide +kernel
theorem dL_law_1141 : decode cL_law 1141 = .ok (.iadd, 1) := by decide +kernel
theorem dL_law_1142 : decode cL_law 1142 = .ok (.iaload, 1) := by decide +kernel
theorem dL_law_1143 : decode cL_law 1143 = .ok (.invokevirtual 126, 3) := by decide +kernel
theorem dL_law_1146 : decode cL_law 1146 = .ok (.aload_n 2, 1) := by decide +kernel
theorem dL_law_1147 : decode cL_law 1147 = .ok (.aload_n 0, 1) := by decide +kernel
theorem dL_law_1148 : decode cL_law 1148 = .ok (.iload_n 3, 1) := by decide +kernel
theorem dL_law_1149 : decode cL_law 1149 = .ok (.iconst 1, 1) := by decide +kernel
theorem dL_law_1150 : decode cL_law 1150 = .ok (.iadd, 1) := by decide +kernel
theorem dL_law_1151 : decode cL_law 1151 = .ok (.iaload, 1) := by decide +kernel
theorem dL_law_1152 : decode cL_law 1152 = .ok (.invokevirtual 129, 3) := by decide +kernel
theorem dL_law_1155 : decode cL_law 1155 = .ok (.if_icmp .eq 98, 3) := by decide +kernel
theorem dL_law_1158 : decode cL_law 1158 = .ok (.iconst 0, 1) := by decide +kernel
theorem dL_law_1159 : decode cL_law 1159 = .ok (.ireturn, 1) := by decide +kernel
theorem dL_law_1160 : decode cL_law 1160 = .ok (.aload_n 1, 1) := by decide +kernel
theorem dL_law_1161 : decode cL_law 1161 = .ok (.aload_n 0, 1) := by decide +kernel
theorem dL_law_1162 : decode cL_law 1162 = .ok (.iload_n 3, 1) := by decide +kernel
theorem dL_law_1163 : decode cL_law 1163 = .ok (.iconst 1, 1) := by decide +kernel
theorem dL_law_1164 : decode cL_law 1164 = .ok (.iadd, 1) := by decide +kernel
theorem dL_law_1165 : decode cL_law 1165 = .ok (.iaload, 1) := by decide +kernel
theorem dL_law_1166 : decode cL_law 1166 = .ok (.invokevirtual 130, 3) := by decide +kernel
theorem dL_law_1169 : decode cL_law 1169 = .ok (.aload_n 2, 1) := by decide +kernel
theorem dL_law_1170 : decode cL_law 1170 = .ok (.aload_n 0, 1) := by decide +kernel
theorem dL_law_1171 : decode cL_law 1171 = .ok (.iload_n 3, 1) := by decide +kernel
theorem dL_law_1172 : decode cL_law 1172 = .ok (.iconst 1, 1) := by decide +kernel
theorem dL_law_1173 : decode cL_law 1173 = .ok (.iadd, 1) := by decide +kernel
theorem dL_law_1174 : decode cL_law 1174 = .ok (.iaload, 1) := by decide +kernel
theorem dL_law_1175 : decode cL_law 1175 = .ok (.invokevirtual 133, 3) := by decide +kernel
theorem dL_law_1178 : decode cL_law 1178 = .ok (.if_icmp .eq 75, 3) := by decide +kernel
theorem dL_law_1181 : decode cL_law 1181 = .ok (.iconst 0, 1) := by decide +kernel
theorem dL_law_1182 : decode cL_law 1182 = .ok (.ireturn, 1) := by decide +kernel
theorem dL_law_1183 : decode cL_law 1183 = .ok (.aload_n 1, 1) := by decide +kernel
theorem dL_law_1184 : decode cL_law 1184 = .ok (.aload_n 0, 1) := by decide +kernel
theorem dL_law_1185 : decode cL_law 1185 = .ok (.iload_n 3, 1) := by decide +kernel
theorem dL_law_1186 : decode cL_law 1186 = .ok (.iconst 1, 1) := by decide +kernel
theorem dL_law_1187 : decode cL_law 1187 = .ok (.iadd, 1) := by decide +kernel
theorem dL_law_1188 : decode cL_law 1188 = .ok (.iaload, 1) := by decide +kernel
theorem dL_law_1189 : decode cL_law 1189 = .ok (.aload_n 0, 1) := by decide +kernel
theorem dL_law_1190 : decode cL_law 1190 = .ok (.iload_n 3, 1) := by decide +kernel
theorem dL_law_1191 : decode cL_law 1191 = .ok (.iconst 2, 1) := by decide +kernel
theorem dL_law_1192 : decode cL_law 1192 = .ok (.iadd, 1) := by decide +kernel
theorem dL_law_1193 : decode cL_law 1193 = .ok (.iaload, 1) := by decide +kernel
theorem dL_law_1194 : decode cL_law 1194 = .ok (.invokevirtual 134, 3) := by decide +kernel
theorem dL_law_1197 : decode cL_law 1197 = .ok (.aload_n 2, 1) := by decide +kernel
theorem dL_law_1198 : decode cL_law 1198 = .ok (.aload_n 0, 1) := by decide +kernel
theorem dL_law_1199 : decode cL_law 1199 = .ok (.iload_n 3, 1) := by decide +kernel
theorem dL_law_1200 : decode cL_law 1200 = .ok (.iconst 1, 1) := by decide +kernel
theorem dL_law_1201 : decode cL_law 1201 = .ok (.iadd, 1) := by decide +kernel
theorem dL_law_1202 : decode cL_law 1202 = .ok (.iaload, 1) := by decide +kernel
theorem dL_law_1203 : decode cL_law 1203 = .ok (.aload_n 0, 1) := by decide +kernel
theorem dL_law_1204 : decode cL_law 1204 = .ok (.iload_n 3, 1) := by decide +kernel
theorem dL_law_1205 : decode cL_law 1205 = .ok (.iconst 2, 1) := by decide +kernel
theorem dL_law_1206 : decode cL_law 1206 = .ok (.iadd, 1) := by decide +kernel
theorem dL_law_1207 : decode cL_law 1207 = .ok (.iaload, 1) := by decide +kernel
theorem dL_law_1208 : decode cL_law 1208 = .ok (.invokevirtual 137, 3) := by decide +kernel
theorem dL_law_1211 : decode cL_law 1211 = .ok (.if_icmp .eq 42, 3) := by decide +kernel
theorem dL_law_1214 : decode cL_law 1214 = .ok (.iconst 0, 1) := by decide +kernel
theorem dL_law_1215 : decode cL_law 1215 = .ok (.ireturn, 1) := by decide +kernel
theorem dL_law_1216 : decode cL_law 1216 = .ok (.aload_n 1, 1) := by decide +kernel
theorem dL_law_1217 : decode cL_law 1217 = .ok (.aload_n 0, 1) := by decide +kernel
theorem dL_law_1218 : decode cL_law 1218 = .ok (.iload_n 3, 1) := by decide +kernel
theorem dL_law_1219 : decode cL_law 1219 = .ok (.iconst 1, 1) := by decide +kernel
theorem dL_law_1220 : decode cL_law 1220 = .ok (.iadd, 1) := by decide +kernel
theorem dL_law_1221 : decode cL_law 1221 = .ok (.iaload, 1) := by decide +kernel
theorem dL_law_1222 : decode cL_law 1222 = .ok (.invokevirtual 138, 3) := by decide +kernel
theorem dL_law_1225 : decode cL_law 1225 = .ok (.aload_n 2, 1) := by decide +kernel
theorem dL_law_1226 : decode cL_law 1226 = .ok (.aload_n 0, 1) := by decide +kernel
theorem dL_law_1227 : decode cL_law 1227 = .ok (.iload_n 3, 1) := by decide +kernel
theorem dL_law_1228 : decode cL_law 1228 = .ok (.iconst 1, 1) := by decide +kernel
theorem dL_law_1229 : decode cL_law 1229 = .ok (.iadd, 1) := by decide +kernel
theorem dL_law_1230 : decode cL_law 1230 = .ok (.iaload, 1) := by decide +kernel
theorem dL_law_1231 : decode cL_law 1231 = .ok (.invokevirtual 141, 3) := by decide +kernel
theorem dL_law_1234 : decode cL_law 1234 = .ok (.if_icmp .eq 19, 3) := by decide +kernel
theorem dL_law_1237 : decode cL_law 1237 = .ok (.iconst 0, 1) := by decide +kernel
theorem dL_law_1238 : decode cL_law 1238 = .ok (.ireturn, 1) := by decide +kernel
theorem dL_law_1239 : decode cL_law 1239 = .ok (.aload_n 1, 1) := by decide +kernel
theorem dL_law_1240 : decode cL_law 1240 = .ok (.invokevirtual 142, 3) := by decide +kernel
theorem dL_law_1243 : decode cL_law 1243 = .ok (.aload_n 2, 1) := by decide +kernel
theorem dL_law_1244 : decode cL_law 1244 = .ok (.invokevirtual 146, 3) := by decide +kernel
theorem dL_law_1247 : decode cL_law 1247 = .ok (.lcmp, 1) := by decide +kernel
theorem dL_law_1248 : decode cL_law 1248 = .ok (.ifCond .eq 5, 3) := by decide +kernel
theorem dL_law_1251 : decode cL_law 1251 = .ok (.iconst 0, 1) := by decide +kernel
theorem dL_law_1252 : decode cL_law 1252 = .ok (.ireturn, 1) := by decide +kernel
theorem dL_law_1253 : decode cL_law 1253 = .ok (.iinc 3 6, 3) := by decide +kernel
theorem dL_law_1256 : decode cL_law 1256 = .ok (.goto (-1238), 3) := by decide +kernel
theorem dL_law_1259 : decode cL_law 1259 = .ok (.iconst 1, 1) := by decide +kernel
theorem dL_law_1260 : decode cL_law 1260 = .ok (.ireturn, 1) := by decide +kernel

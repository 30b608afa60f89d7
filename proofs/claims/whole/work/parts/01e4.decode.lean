theorem dX5_lay_4 : decode cX5_lay 4 = .ok (.if_icmp .ge 36, 3) := by decide +kernel
theorem dX5_lay_7 : decode cX5_lay 7 = .ok (.aload_n 0, 1) := by decide +kernel
theorem dX5_lay_8 : decode cX5_lay 8 = .ok (.getfield 7, 3) := by decide +kernel
theorem dX5_lay_11 : decode cX5_lay 11 = .ok (.bipush 32, 2) := by decide +kernel
theorem dX5_lay_13 : decode cX5_lay 13 = .ok (.aload_n 0, 1) := by decide +kernel
theorem dX5_lay_14 : decode cX5_lay 14 = .ok (.getfield 13, 3) := by decide +kernel
theorem dX5_lay_17 : decode cX5_lay 17 = .ok (.iload_n 1, 1) := by decide +kernel
theorem dX5_lay_18 : decode cX5_lay 18 = .ok (.iaload, 1) := by decide +kernel
theorem dX5_lay_19 : decode cX5_lay 19 = .ok (.imul, 1) := by decide +kernel
theorem dX5_lay_20 : decode cX5_lay 20 = .ok (.iload_n 3, 1) := by decide +kernel
theorem dX5_lay_21 : decode cX5_lay 21 = .ok (.iadd, 1) := by decide +kernel
theorem dX5_lay_22 : decode cX5_lay 22 = .ok (.aload_n 0, 1) := by decide +kernel
theorem dX5_lay_23 : decode cX5_lay 23 = .ok (.getfield 17, 3) := by decide +kernel
theorem dX5_lay_26 : decode cX5_lay 26 = .ok (.bipush 32, 2) := by decide +kernel
theorem dX5_lay_28 : decode cX5_lay 28 = .ok (.iload_n 1, 1) := by decide +kernel
theorem dX5_lay_29 : decode cX5_lay 29 = .ok (.imul, 1) := by decide +kernel
theorem dX5_lay_30 : decode cX5_lay 30 = .ok (.iload_n 3, 1) := by decide +kernel
theorem dX5_lay_31 : decode cX5_lay 31 = .ok (.iadd, 1) := by decide +kernel
theorem dX5_lay_32 : decode cX5_lay 32 = .ok (.baload, 1) := by decide +kernel
theorem dX5_lay_33 : decode cX5_lay 33 = .ok (.bastore, 1) := by decide +kernel
theorem dX5_lay_34 : decode cX5_lay 34 = .ok (.iinc 3 1, 3) := by decide +kernel
theorem dX5_lay_37 : decode cX5_lay 37 = .ok (.goto (-35), 3) := by decide +kernel
theorem dX5_lay_40 : decode cX5_lay 40 = .ok (.return_, 1) := by decide +kernel
theorem dX5_sync_0 : decode cX5_sync 0 = .ok (.aload_n 0, 1) := by decide +kernel
theorem dX5_sync_1 : decode cX5_sync 1 = .ok (.getfield 64, 3) := by decide +kernel
theorem dX5_sync_4 : decode cX5_sync 4 = .ok (.ifCond .eq 6, 3) := by decide +kernel
theorem dX5_sync_7 : decode cX5_sync 7 = .ok (.bipush (-3), 2) := by decide +kernel
theorem dX5_sync_9 : decode cX5_sync 9 = .ok (.ireturn, 1) := by decide +kernel
theorem dX5_sync_10 : decode cX5_sync 10 = .ok (.aload_n 0, 1) := by decide +kernel
theorem dX5_sync_11 : decode cX5_sync 11 = .ok (.getfield 55, 3) := by decide +kernel
theorem dX5_sync_14 : decode cX5_sync 14 = .ok (.ifCond .le 14, 3) := by decide +kernel
theorem dX5_sync_17 : decode cX5_sync 17 = .ok (.aload_n 0, 1) := by decide +kernel
theorem dX5_sync_18 : decode cX5_sync 18 = .ok (.iconst 1, 1) := by decide +kernel
theorem dX5_sync_19 : decode cX5_sync 19 = .ok (.invokevirtual 107, 3) := by decide +kernel
theorem dX5_sync_22 : decode cX5_sync 22 = .ok (.ifCond .ne 6, 3) := by decide +kernel
theorem dX5_sync_25 : decode cX5_sync 25 = .ok (.bipush (-2), 2) := by decide +kernel
theorem dX5_sync_27 : decode cX5_sync 27 = .ok (.ireturn, 1) := by decide +kernel
theorem dX5_sync_28 : decode cX5_sync 28 = .ok (.aload_n 0, 1) := by decide +kernel
theorem dX5_sync_29 : decode cX5_sync 29 = .ok (.getfield 55, 3) := by decide +kernel
theorem dX5_sync_32 : decode cX5_sync 32 = .ok (.ifCond .le 7, 3) := by decide +kernel
theorem dX5_sync_35 : decode cX5_sync 35 = .ok (.aload_n 0, 1) := by decide +kernel
theorem dX5_sync_36 : decode cX5_sync 36 = .ok (.invokevirtual 104, 3) := by decide +kernel
theorem dX5_sync_39 : decode cX5_sync 39 = .ok (.aload_n 0, 1) := by decide +kernel
theorem dX5_sync_40 : decode cX5_sync 40 = .ok (.getfield 52, 3) := by decide +kernel
theorem dX5_sync_43 : decode cX5_sync 43 = .ok (.istore_n 1, 1) := by decide +kernel
theorem dX5_sync_44 : decode cX5_sync 44 = .ok (.iconst 0, 1) := by decide +kernel
theorem dX5_sync_45 : decode cX5_sync 45 = .ok (.istore_n 2, 1) := by decide +kernel
theorem dX5_sync_46 : decode cX5_sync 46 = .ok (.iload_n 2, 1) := by decide +kernel
theorem dX5_sync_47 : decode cX5_sync 47 = .ok (.iload_n 1, 1) := by decide +kernel
theorem dX5_sync_48 : decode cX5_sync 48 = .ok (.if_icmp .ge 16, 3) := by decide +kernel
theorem dX5_sync_51 : decode cX5_sync 51 = .ok (.aload_n 0, 1) := by decide +kernel
theorem dX5_sync_52 : decode cX5_sync 52 = .ok (.iload_n 2, 1) := by decide +kernel
theorem dX5_sync_53 : decode cX5_sync 53 = .ok (.bipush 32, 2) := by decide +kernel
theorem dX5_sync_55 : decode cX5_sync 55 = .ok (.invokevirtual 136, 3) := by decide +kernel
theorem dX5_sync_58 : decode cX5_sync 58 = .ok (.iinc 2 1, 3) := by decide +kernel
theorem dX5_sync_61 : decode cX5_sync 61 = .ok (.goto (-15), 3) := by decide +kernel
theorem dX5_sync_64 : decode cX5_sync 64 = .ok (.aload_n 0, 1) := by decide +kernel
theorem dX5_sync_65 : decode cX5_sync 65 = .ok (.iconst 0, 1) := by decide +kernel
theorem dX5_sync_66 : decode cX5_sync 66 = .ok (.putfield 52, 3) := by decide +kernel
theorem dX5_sync_69 : decode cX5_sync 69 = .ok (.aload_n 0, 1) := by decide +kernel
theorem dX5_sync_70 : decode cX5_sync 70 = .ok (.aload_n 0, 1) := by decide +kernel
theorem dX5_sync_71 : decode cX5_sync 71 = .ok (.getfield 74, 3) := by decide +kernel
theorem dX5_sync_74 : decode cX5_sync 74 = .ok (.putfield 77, 3) := by decide +kernel
theorem dX5_sync_77 : decode cX5_sync 77 = .ok (.iload_n 1, 1) := by decide +kernel
theorem dX5_sync_78 : decode cX5_sync 78 = .ok (.ireturn, 1) := by decide +kernel
theorem dX5_checkpoint_0 : decode cX5_checkpoint 0 = .ok (.aload_n 0, 1) := by decide +kernel
theorem dX5_checkpoint_1 : decode cX5_checkpoint 1 = .ok (.getfield 64, 3) := by decide +kernel
theorem dX5_checkpoint_4 : decode cX5_checkpoint 4 = .ok (.ifCond .eq 6, 3) := by decide +kernel
theorem dX5_checkpoint_7 : decode cX5_checkpoint 7 = .ok (.bipush (-3), 2) := by decide +kernel
theorem dX5_checkpoint_9 : decode cX5_checkpoint 9 = .ok (.ireturn, 1) := by decide +kernel
theorem dX5_checkpoint_10 : decode cX5_checkpoint 10 = .ok (.aload_n 0, 1) := by decide +kernel
theorem dX5_checkpoint_11 : decode cX5_checkpoint 11 = .ok (.getfield 32, 3) := by decide +kernel
theorem dX5_checkpoint_14 : decode cX5_checkpoint 14 = .ok (.iconst 0, 1) := by decide +kernel
theorem dX5_checkpoint_15 : decode cX5_checkpoint 15 = .ok (.baload, 1) := by decide +kernel
theorem dX5_checkpoint_16 : decode cX5_checkpoint 16 = .ok (.ifCond .ne 21, 3) := by decide +kernel
theorem dX5_checkpoint_19 : decode cX5_checkpoint 19 = .ok (.aload_n 0, 1) := by decide +kernel
theorem dX5_checkpoint_20 : decode cX5_checkpoint 20 = .ok (.getfield 32, 3) := by decide +kernel
theorem dX5_checkpoint_23 : decode cX5_checkpoint 23 = .ok (.iconst 1, 1) := by decide +kernel
theorem dX5_checkpoint_24 : decode cX5_checkpoint 24 = .ok (.baload, 1) := by decide +kernel
theorem dX5_checkpoint_25 : decode cX5_checkpoint 25 = .ok (.ifCond .ne 12, 3) := by decide +kernel
theorem dX5_checkpoint_28 : decode cX5_checkpoint 28 = .ok (.aload_n 0, 1) := by decide +kernel
theorem dX5_checkpoint_29 : decode cX5_checkpoint 29 = .ok (.getfield 32, 3) := by decide +kernel
theorem dX5_checkpoint_32 : decode cX5_checkpoint 32 = .ok (.iconst 2, 1) := by decide +kernel
theorem dX5_checkpoint_33 : decode cX5_checkpoint 33 = .ok (.baload, 1) := by decide +kernel
theorem dX5_checkpoint_34 : decode cX5_checkpoint 34 = .ok (.ifCond .eq 5, 3) := by decide +kernel
theorem dX5_checkpoint_37 : decode cX5_checkpoint 37 = .ok (.iconst (-1), 1) := by decide +kernel
theorem dX5_checkpoint_38 : decode cX5_checkpoint 38 = .ok (.ireturn, 1) := by decide +kernel
theorem dX5_checkpoint_39 : decode cX5_checkpoint 39 = .ok (.iconst 0, 1) := by decide +kernel
theorem dX5_checkpoint_40 : decode cX5_checkpoint 40 = .ok (.istore_n 1, 1) := by decide +kernel
theorem dX5_checkpoint_41 : decode cX5_checkpoint 41 = .ok (.iconst 0, 1) := by decide +kernel
theorem dX5_checkpoint_42 : decode cX5_checkpoint 42 = .ok (.istore_n 2, 1) := by decide +kernel
theorem dX5_checkpoint_43 : decode cX5_checkpoint 43 = .ok (.iload_n 2, 1) := by decide +kernel
theorem dX5_checkpoint_44 : decode cX5_checkpoint 44 = .ok (.bipush 32, 2) := by decide +kernel
theorem dX5_checkpoint_46 : decode cX5_checkpoint 46 = .ok (.if_icmp .ge 27, 3) := by decide +kernel
theorem dX5_checkpoint_49 : decode cX5_checkpoint 49 = .ok (.iload_n 1, 1) := by decide +kernel
theorem dX5_checkpoint_50 : decode cX5_checkpoint 50 = .ok (.aload_n 0, 1) := by decide +kernel
theorem dX5_checkpoint_51 : decode cX5_checkpoint 51 = .ok (.getfield 29, 3) := by decide +kernel
theorem dX5_checkpoint_54 : decode cX5_checkpoint 54 = .ok (.iload_n 2, 1) := by decide +kernel
theorem dX5_checkpoint_55 : decode cX5_checkpoint 55 = .ok (.iaload, 1) := by decide +kernel
theorem dX5_checkpoint_56 : decode cX5_checkpoint 56 = .ok (.iconst (-1), 1) := by decide +kernel
theorem dX5_checkpoint_57 : decode cX5_checkpoint 57 = .ok (.if_icmp .eq 7, 3) := by decide +kernel
theorem dX5_checkpoint_60 : decode cX5_checkpoint 60 = .ok (.iconst 1, 1) := by decide +kernel
theorem dX5_checkpoint_61 : decode cX5_checkpoint 61 = .ok (.goto 4, 3) := by decide +kernel
theorem dX5_checkpoint_64 : decode cX5_checkpoint 64 = .ok (.iconst 0, 1) := by decide +kernel
theorem dX5_checkpoint_65 : decode cX5_checkpoint 65 = .ok (.iadd, 1) := by decide +kernel
theorem dX5_checkpoint_66 : decode cX5_checkpoint 66 = .ok (.istore_n 1, 1) := by decide +kernel
theorem dX5_checkpoint_67 : decode cX5_checkpoint 67 = .ok (.iinc 2 1, 3) := by decide +kernel
theorem dX5_checkpoint_70 : decode cX5_checkpoint 70 = .ok (.goto (-27), 3) := by decide +kernel
theorem dX5_checkpoint_73 : decode cX5_checkpoint 73 = .ok (.iload_n 1, 1) := by decide +kernel
theorem dX5_checkpoint_74 : decode cX5_checkpoint 74 = .ok (.ifCond .ne 7, 3) := by decide +kernel
theorem dX5_checkpoint_77 : decode cX5_checkpoint 77 = .ok (.iconst 1, 1) := by decide +kernel
theorem dX5_checkpoint_78 : decode cX5_checkpoint 78 = .ok (.goto 8, 3) := by decide +kernel
theorem dX5_checkpoint_81 : decode cX5_checkpoint 81 = .ok (.iload_n 1, 1) := by decide +kernel
theorem dX5_checkpoint_82 : decode cX5_checkpoint 82 = .ok (.iconst 4, 1) := by decide +kernel
theorem dX5_checkpoint_83 : decode cX5_checkpoint 83 = .ok (.iadd, 1) := by decide +kernel
theorem dX5_checkpoint_84 : decode cX5_checkpoint 84 = .ok (.iconst 5, 1) := by decide +kernel
theorem dX5_checkpoint_85 : decode cX5_checkpoint 85 = .ok (.idiv, 1) := by decide +kernel
theorem dX5_checkpoint_86 : decode cX5_checkpoint 86 = .ok (.istore_n 2, 1) := by decide +kernel
theorem dX5_checkpoint_87 : decode cX5_checkpoint 87 = .ok (.aload_n 0, 1) := by decide +kernel
theorem dX5_checkpoint_88 : decode cX5_checkpoint 88 = .ok (.iload_n 2, 1) := by decide +kernel
theorem dX5_checkpoint_89 : decode cX5_checkpoint 89 = .ok (.aload_n 0, 1) := by decide +kernel
theorem dX5_checkpoint_90 : decode cX5_checkpoint 90 = .ok (.getfield 55, 3) := by decide +kernel
theorem dX5_checkpoint_93 : decode cX5_checkpoint 93 = .ok (.ifCond .le 7, 3) := by decide +kernel
theorem dX5_checkpoint_96 : decode cX5_checkpoint 96 = .ok (.iconst 1, 1) := by decide +kernel
theorem dX5_checkpoint_97 : decode cX5_checkpoint 97 = .ok (.goto 4, 3) := by decide +kernel
theorem dX5_checkpoint_100 : decode cX5_checkpoint 100 = .ok (.iconst 0, 1) := by decide +kernel
theorem dX5_checkpoint_101 : decode cX5_checkpoint 101 = .ok (.iadd, 1) := by decide +kernel
theorem dX5_checkpoint_102 : decode cX5_checkpoint 102 = .ok (.invokevirtual 107, 3) := by decide +kernel
theorem dX5_checkpoint_105 : decode cX5_checkpoint 105 = .ok (.ifCond .ne 6, 3) := by decide +kernel
theorem dX5_checkpoint_108 : decode cX5_checkpoint 108 = .ok (.bipush (-2), 2) := by decide +kernel
theorem dX5_checkpoint_110 : decode cX5_checkpoint 110 = .ok (.ireturn, 1) := by decide +kernel
theorem dX5_checkpoint_111 : decode cX5_checkpoint 111 = .ok (.aload_n 0, 1) := by decide +kernel
theorem dX5_checkpoint_112 : decode cX5_checkpoint 112 = .ok (.getfield 55, 3) := by decide +kernel
theorem dX5_checkpoint_115 : decode cX5_checkpoint 115 = .ok (.ifCond .le 7, 3) := by decide +kernel
theorem dX5_checkpoint_118 : decode cX5_checkpoint 118 = .ok (.aload_n 0, 1) := by decide +kernel
theorem dX5_checkpoint_119 : decode cX5_checkpoint 119 = .ok (.invokevirtual 104, 3) := by decide +kernel
theorem dX5_checkpoint_122 : decode cX5_checkpoint 122 = .ok (.aload_n 0, 1) := by decide +kernel
theorem dX5_checkpoint_123 : decode cX5_checkpoint 123 = .ok (.aload_n 0, 1) := by decide +kernel
theorem dX5_checkpoint_124 : decode cX5_checkpoint 124 = .ok (.getfield 71, 3) := by decide +kernel
theorem dX5_checkpoint_127 : decode cX5_checkpoint 127 = .ok (.iconst 1, 1) := by decide +kernel
theorem dX5_checkpoint_128 : decode cX5_checkpoint 128 = .ok (.iadd, 1) := by decide +kernel
theorem dX5_checkpoint_129 : decode cX5_checkpoint 129 = .ok (.putfield 74, 3) := by decide +kernel
theorem dX5_checkpoint_132 : decode cX5_checkpoint 132 = .ok (.iconst 0, 1) := by decide +kernel
theorem dX5_checkpoint_133 : decode cX5_checkpoint 133 = .ok (.istore_n 3, 1) := by decide +kernel
theorem dX5_checkpoint_134 : decode cX5_checkpoint 134 = .ok (.iconst 0, 1) := by decide +kernel
theorem dX5_checkpoint_135 : decode cX5_checkpoint 135 = .ok (.istore 4, 2) := by decide +kernel
theorem dX5_checkpoint_137 : decode cX5_checkpoint 137 = .ok (.iload 4, 2) := by decide +kernel
theorem dX5_checkpoint_139 : decode cX5_checkpoint 139 = .ok (.iload_n 2, 1) := by decide +kernel
theorem dX5_checkpoint_140 : decode cX5_checkpoint 140 = .ok (.if_icmp .ge 118, 3) := by decide +kernel
theorem dX5_checkpoint_143 : decode cX5_checkpoint 143 = .ok (.aload_n 0, 1) := by decide +kernel
theorem dX5_checkpoint_144 : decode cX5_checkpoint 144 = .ok (.iconst 2, 1) := by decide +kernel
theorem dX5_checkpoint_145 : decode cX5_checkpoint 145 = .ok (.aload_n 0, 1) := by decide +kernel
theorem dX5_checkpoint_146 : decode cX5_checkpoint 146 = .ok (.getfield 71, 3) := by decide +kernel
theorem dX5_checkpoint_149 : decode cX5_checkpoint 149 = .ok (.iconst 1, 1) := by decide +kernel
theorem dX5_checkpoint_150 : decode cX5_checkpoint 150 = .ok (.iadd, 1) := by decide +kernel
theorem dX5_checkpoint_151 : decode cX5_checkpoint 151 = .ok (.invokevirtual 80, 3) := by decide +kernel
theorem dX5_checkpoint_154 : decode cX5_checkpoint 154 = .ok (.iconst 0, 1) := by decide +kernel
theorem dX5_checkpoint_155 : decode cX5_checkpoint 155 = .ok (.istore 5, 2) := by decide +kernel
theorem dX5_checkpoint_157 : decode cX5_checkpoint 157 = .ok (.iload_n 3, 1) := by decide +kernel
theorem dX5_checkpoint_158 : decode cX5_checkpoint 158 = .ok (.bipush 32, 2) := by decide +kernel
theorem dX5_checkpoint_160 : decode cX5_checkpoint 160 = .ok (.if_icmp .ge 60, 3) := by decide +kernel
theorem dX5_checkpoint_163 : decode cX5_checkpoint 163 = .ok (.iload 5, 2) := by decide +kernel
theorem dX5_checkpoint_165 : decode cX5_checkpoint 165 = .ok (.iconst 5, 1) := by decide +kernel
theorem dX5_checkpoint_166 : decode cX5_checkpoint 166 = .ok (.if_icmp .ge 54, 3) := by decide +kernel
theorem dX5_checkpoint_169 : decode cX5_checkpoint 169 = .ok (.aload_n 0, 1) := by decide +kernel
theorem dX5_checkpoint_170 : decode cX5_checkpoint 170 = .ok (.getfield 29, 3) := by decide +kernel
theorem dX5_checkpoint_173 : decode cX5_checkpoint 173 = .ok (.iload_n 3, 1) := by decide +kernel
theorem dX5_checkpoint_174 : decode cX5_checkpoint 174 = .ok (.iaload, 1) := by decide +kernel
theorem dX5_checkpoint_175 : decode cX5_checkpoint 175 = .ok (.iconst (-1), 1) := by decide +kernel
theorem dX5_checkpoint_176 : decode cX5_checkpoint 176 = .ok (.if_icmp .eq 38, 3) := by decide +kernel
theorem dX5_checkpoint_179 : decode cX5_checkpoint 179 = .ok (.aload_n 0, 1) := by decide +kernel
theorem dX5_checkpoint_180 : decode cX5_checkpoint 180 = .ok (.getfield 42, 3) := by decide +kernel
theorem dX5_checkpoint_183 : decode cX5_checkpoint 183 = .ok (.bipush 6, 2) := by decide +kernel
theorem dX5_checkpoint_185 : decode cX5_checkpoint 185 = .ok (.iconst 4, 1) := by decide +kernel
theorem dX5_checkpoint_186 : decode cX5_checkpoint 186 = .ok (.iload 5, 2) := by decide +kernel
theorem dX5_checkpoint_188 : decode cX5_checkpoint 188 = .ok (.imul, 1) := by decide +kernel
theorem dX5_checkpoint_189 : decode cX5_checkpoint 189 = .ok (.iadd, 1) := by decide +kernel
theorem dX5_checkpoint_190 : decode cX5_checkpoint 190 = .ok (.iload_n 3, 1) := by decide +kernel
theorem dX5_checkpoint_191 : decode cX5_checkpoint 191 = .ok (.i2b, 1) := by decide +kernel
theorem dX5_checkpoint_192 : decode cX5_checkpoint 192 = .ok (.bastore, 1) := by decide +kernel
theorem dX5_checkpoint_193 : decode cX5_checkpoint 193 = .ok (.aload_n 0, 1) := by decide +kernel
theorem dX5_checkpoint_194 : decode cX5_checkpoint 194 = .ok (.bipush 7, 2) := by decide +kernel
theorem dX5_checkpoint_196 : decode cX5_checkpoint 196 = .ok (.iconst 4, 1) := by decide +kernel
theorem dX5_checkpoint_197 : decode cX5_checkpoint 197 = .ok (.iload 5, 2) := by decide +kernel
theorem dX5_checkpoint_199 : decode cX5_checkpoint 199 = .ok (.imul, 1) := by decide +kernel
theorem dX5_checkpoint_200 : decode cX5_checkpoint 200 = .ok (.iadd, 1) := by decide +kernel
theorem dX5_checkpoint_201 : decode cX5_checkpoint 201 = .ok (.aload_n 0, 1) := by decide +kernel
theorem dX5_checkpoint_202 : decode cX5_checkpoint 202 = .ok (.getfield 29, 3) := by decide +kernel
theorem dX5_checkpoint_205 : decode cX5_checkpoint 205 = .ok (.iload_n 3, 1) := by decide +kernel
theorem dX5_checkpoint_206 : decode cX5_checkpoint 206 = .ok (.iaload, 1) := by decide +kernel
theorem dX5_checkpoint_207 : decode cX5_checkpoint 207 = .ok (.iconst 3, 1) := by decide +kernel
theorem dX5_checkpoint_208 : decode cX5_checkpoint 208 = .ok (.invokevirtual 88, 3) := by decide +kernel
theorem dX5_checkpoint_211 : decode cX5_checkpoint 211 = .ok (.iinc 5 1, 3) := by decide +kernel
theorem dX5_checkpoint_214 : decode cX5_checkpoint 214 = .ok (.iinc 3 1, 3) := by decide +kernel
theorem dX5_checkpoint_217 : decode cX5_checkpoint 217 = .ok (.goto (-60), 3) := by decide +kernel
theorem dX5_checkpoint_220 : decode cX5_checkpoint 220 = .ok (.aload_n 0, 1) := by decide +kernel
theorem dX5_checkpoint_221 : decode cX5_checkpoint 221 = .ok (.getfield 42, 3) := by decide +kernel
theorem dX5_checkpoint_224 : decode cX5_checkpoint 224 = .ok (.iconst 5, 1) := by decide +kernel
theorem dX5_checkpoint_225 : decode cX5_checkpoint 225 = .ok (.iload 5, 2) := by decide +kernel
theorem dX5_checkpoint_227 : decode cX5_checkpoint 227 = .ok (.i2b, 1) := by decide +kernel
theorem dX5_checkpoint_228 : decode cX5_checkpoint 228 = .ok (.bastore, 1) := by decide +kernel
theorem dX5_checkpoint_229 : decode cX5_checkpoint 229 = .ok (.aload_n 0, 1) := by decide +kernel
theorem dX5_checkpoint_230 : decode cX5_checkpoint 230 = .ok (.getfield 42, 3) := by decide +kernel
theorem dX5_checkpoint_233 : decode cX5_checkpoint 233 = .ok (.bipush 26, 2) := by decide +kernel
theorem dX5_checkpoint_235 : decode cX5_checkpoint 235 = .ok (.iload 4, 2) := by decide +kernel
theorem dX5_checkpoint_237 : decode cX5_checkpoint 237 = .ok (.i2b, 1) := by decide +kernel
theorem dX5_checkpoint_238 : decode cX5_checkpoint 238 = .ok (.bastore, 1) := by decide +kernel
theorem dX5_checkpoint_239 : decode cX5_checkpoint 239 = .ok (.aload_n 0, 1) := by decide +kernel
theorem dX5_checkpoint_240 : decode cX5_checkpoint 240 = .ok (.getfield 42, 3) := by decide +kernel
theorem dX5_checkpoint_243 : decode cX5_checkpoint 243 = .ok (.bipush 27, 2) := by decide +kernel
theorem dX5_checkpoint_245 : decode cX5_checkpoint 245 = .ok (.iload_n 2, 1) := by decide +kernel
theorem dX5_checkpoint_246 : decode cX5_checkpoint 246 = .ok (.i2b, 1) := by decide +kernel
theorem dX5_checkpoint_247 : decode cX5_checkpoint 247 = .ok (.bastore, 1) := by decide +kernel
theorem dX5_checkpoint_248 : decode cX5_checkpoint 248 = .ok (.aload_n 0, 1) := by decide +kernel
theorem dX5_checkpoint_249 : decode cX5_checkpoint 249 = .ok (.invokevirtual 101, 3) := by decide +kernel
theorem dX5_checkpoint_252 : decode cX5_checkpoint 252 = .ok (.iinc 4 1, 3) := by decide +kernel
theorem dX5_checkpoint_255 : decode cX5_checkpoint 255 = .ok (.goto (-118), 3) := by decide +kernel
theorem dX5_checkpoint_258 : decode cX5_checkpoint 258 = .ok (.iload_n 2, 1) := by decide +kernel
theorem dX5_checkpoint_259 : decode cX5_checkpoint 259 = .ok (.ireturn, 1) := by decide +kernel
theorem dX5_cut_0 : decode cX5_cut 0 = .ok (.aload_n 0, 1) := by decide +kernel
theorem dX5_cut_1 : decode cX5_cut 1 = .ok (.getfield 64, 3) := by decide +kernel
theorem dX5_cut_4 : decode cX5_cut 4 = .ok (.ifCond .eq 6, 3) := by decide +kernel
theorem dX5_cut_7 : decode cX5_cut 7 = .ok (.bipush (-3), 2) := by decide +kernel
theorem dX5_cut_9 : decode cX5_cut 9 = .ok (.ireturn, 1) := by decide +kernel
theorem dX5_cut_10 : decode cX5_cut 10 = .ok (.iload_n 1, 1) := by decide +kernel
theorem dX5_cut_11 : decode cX5_cut 11 = .ok (.iconst 0, 1) := by decide +kernel
theorem dX5_cut_12 : decode cX5_cut 12 = .ok (.aload_n 0, 1) := by decide +kernel
theorem dX5_cut_13 : decode cX5_cut 13 = .ok (.getfield 52, 3) := by decide +kernel
theorem dX5_cut_16 : decode cX5_cut 16 = .ok (.invokestatic 111, 3) := by decide +kernel
theorem dX5_cut_19 : decode cX5_cut 19 = .ok (.ifCond .eq 13, 3) := by decide +kernel
theorem dX5_cut_22 : decode cX5_cut 22 = .ok (.iload_n 2, 1) := by decide +kernel
theorem dX5_cut_23 : decode cX5_cut 23 = .ok (.iconst 0, 1) := by decide +kernel
theorem dX5_cut_24 : decode cX5_cut 24 = .ok (.bipush 32, 2) := by decide +kernel
theorem dX5_cut_26 : decode cX5_cut 26 = .ok (.invokestatic 111, 3) := by decide +kernel
theorem dX5_cut_29 : decode cX5_cut 29 = .ok (.ifCond .ne 5, 3) := by decide +kernel
theorem dX5_cut_32 : decode cX5_cut 32 = .ok (.iconst (-1), 1) := by decide +kernel
theorem dX5_cut_33 : decode cX5_cut 33 = .ok (.ireturn, 1) := by decide +kernel
theorem dX5_cut_34 : decode cX5_cut 34 = .ok (.aload_n 0, 1) := by decide +kernel
theorem dX5_cut_35 : decode cX5_cut 35 = .ok (.getfield 52, 3) := by decide +kernel
theorem dX5_cut_38 : decode cX5_cut 38 = .ok (.istore_n 3, 1) := by decide +kernel
theorem dX5_cut_39 : decode cX5_cut 39 = .ok (.iconst 0, 1) := by decide +kernel
theorem dX5_cut_40 : decode cX5_cut 40 = .ok (.istore 4, 2) := by decide +kernel
theorem dX5_cut_42 : decode cX5_cut 42 = .ok (.iload 4, 2) := by decide +kernel
theorem dX5_cut_44 : decode cX5_cut 44 = .ok (.iload_n 1, 1) := by decide +kernel
theorem dX5_cut_45 : decode cX5_cut 45 = .ok (.if_icmp .ge 17, 3) := by decide +kernel
theorem dX5_cut_48 : decode cX5_cut 48 = .ok (.aload_n 0, 1) := by decide +kernel
theorem dX5_cut_49 : decode cX5_cut 49 = .ok (.iload 4, 2) := by decide +kernel
theorem dX5_cut_51 : decode cX5_cut 51 = .ok (.bipush 32, 2) := by decide +kernel
theorem dX5_cut_53 : decode cX5_cut 53 = .ok (.invokevirtual 136, 3) := by decide +kernel
theorem dX5_cut_56 : decode cX5_cut 56 = .ok (.iinc 4 1, 3) := by decide +kernel
theorem dX5_cut_59 : decode cX5_cut 59 = .ok (.goto (-17), 3) := by decide +kernel
theorem dX5_cut_62 : decode cX5_cut 62 = .ok (.iload_n 1, 1) := by decide +kernel
theorem dX5_cut_63 : decode cX5_cut 63 = .ok (.iload_n 3, 1) := by decide +kernel
theorem dX5_cut_64 : decode cX5_cut 64 = .ok (.if_icmp .ge 9, 3) := by decide +kernel
theorem dX5_cut_67 : decode cX5_cut 67 = .ok (.aload_n 0, 1) := by decide +kernel
theorem dX5_cut_68 : decode cX5_cut 68 = .ok (.iload_n 1, 1) := by decide +kernel
theorem dX5_cut_69 : decode cX5_cut 69 = .ok (.iload_n 2, 1) := by decide +kernel
theorem dX5_cut_70 : decode cX5_cut 70 = .ok (.invokevirtual 136, 3) := by decide +kernel
theorem dX5_cut_73 : decode cX5_cut 73 = .ok (.aload_n 0, 1) := by decide +kernel
theorem dX5_cut_74 : decode cX5_cut 74 = .ok (.invokevirtual 61, 3) := by decide +kernel
theorem dX5_cut_77 : decode cX5_cut 77 = .ok (.aload_n 0, 1) := by decide +kernel
theorem dX5_cut_78 : decode cX5_cut 78 = .ok (.iconst 1, 1) := by decide +kernel
theorem dX5_cut_79 : decode cX5_cut 79 = .ok (.putfield 64, 3) := by decide +kernel
theorem dX5_cut_82 : decode cX5_cut 82 = .ok (.iload_n 3, 1) := by decide +kernel
theorem dX5_cut_83 : decode cX5_cut 83 = .ok (.ireturn, 1) := by decide +kernel
theorem dX5_byteAt_0 : decode cX5_byteAt 0 = .ok (.aload_n 0, 1) := by decide +kernel
theorem dX5_byteAt_1 : decode cX5_byteAt 1 = .ok (.getfield 7, 3) := by decide +kernel
theorem dX5_byteAt_4 : decode cX5_byteAt 4 = .ok (.bipush 32, 2) := by decide +kernel
theorem dX5_byteAt_6 : decode cX5_byteAt 6 = .ok (.iload_n 1, 1) := by decide +kernel
theorem dX5_byteAt_7 : decode cX5_byteAt 7 = .ok (.imul, 1) := by decide +kernel
theorem dX5_byteAt_8 : decode cX5_byteAt 8 = .ok (.iload_n 2, 1) := by decide +kernel
theorem dX5_byteAt_9 : decode cX5_byteAt 9 = .ok (.iadd, 1) := by decide +kernel
theorem dX5_byteAt_10 : decode cX5_byteAt 10 = .ok (.baload, 1) := by decide +kernel
theorem dX5_byteAt_11 : decode cX5_byteAt 11 = .ok (.sipush 255, 3) := by decide +kernel
theorem dX5_byteAt_14 : decode cX5_byteAt 14 = .ok (.iand, 1) := by decide +kernel
theorem dX5_byteAt_15 : decode cX5_byteAt 15 = .ok (.ireturn, 1) := by decide +kernel
theorem dX5_numberAt_0 : decode cX5_numberAt 0 = .ok (.iconst 0, 1) := by decide +kernel
theorem dX5_numberAt_1 : decode cX5_numberAt 1 = .ok (.istore 4, 2) := by decide +kernel
theorem dX5_numberAt_3 : decode cX5_numberAt 3 = .ok (.iconst 0, 1) := by decide +kernel
theorem dX5_numberAt_4 : decode cX5_numberAt 4 = .ok (.istore 5, 2) := by decide +kernel
theorem dX5_numberAt_6 : decode cX5_numberAt 6 = .ok (.iload 5, 2) := by decide +kernel
theorem dX5_numberAt_8 : decode cX5_numberAt 8 = .ok (.iload_n 3, 1) := by decide +kernel
theorem dX5_numberAt_9 : decode cX5_numberAt 9 = .ok (.if_icmp .ge 26, 3) := by decide +kernel
theorem dX5_numberAt_12 : decode cX5_numberAt 12 = .ok (.iload 4, 2) := by decide +kernel
theorem dX5_numberAt_14 : decode cX5_numberAt 14 = .ok (.bipush 8, 2) := by decide +kernel
theorem dX5_numberAt_16 : decode cX5_numberAt 16 = .ok (.ishl, 1) := by decide +kernel
theorem dX5_numberAt_17 : decode cX5_numberAt 17 = .ok (.aload_n 0, 1) := by decide +kernel
theorem dX5_numberAt_18 : decode cX5_numberAt 18 = .ok (.iload_n 1, 1) := by decide +kernel
theorem dX5_numberAt_19 : decode cX5_numberAt 19 = .ok (.iload_n 2, 1) := by decide +kernel
theorem dX5_numberAt_20 : decode cX5_numberAt 20 = .ok (.iload 5, 2) := by decide +kernel
theorem dX5_numberAt_22 : decode cX5_numberAt 22 = .ok (.iadd, 1) := by decide +kernel
theorem dX5_numberAt_23 : decode cX5_numberAt 23 = .ok (.invokevirtual 139, 3) := by decide +kernel
theorem dX5_numberAt_26 : decode cX5_numberAt 26 = .ok (.ior, 1) := by decide +kernel
theorem dX5_numberAt_27 : decode cX5_numberAt 27 = .ok (.istore 4, 2) := by decide +kernel
theorem dX5_numberAt_29 : decode cX5_numberAt 29 = .ok (.iinc 5 1, 3) := by decide +kernel
theorem dX5_numberAt_32 : decode cX5_numberAt 32 = .ok (.goto (-26), 3) := by decide +kernel
theorem dX5_numberAt_35 : decode cX5_numberAt 35 = .ok (.iload 4, 2) := by decide +kernel
theorem dX5_numberAt_37 : decode cX5_numberAt 37 = .ok (.ireturn, 1) := by decide +kernel
theorem dX5_isSound_0 : decode cX5_isSound 0 = .ok (.iload_n 1, 1) := by decide +kernel
theorem dX5_isSound_1 : decode cX5_isSound 1 = .ok (.iconst 1, 1) := by decide +kernel
theorem dX5_isSound_2 : decode cX5_isSound 2 = .ok (.iadd, 1) := by decide +kernel
theorem dX5_isSound_3 : decode cX5_isSound 3 = .ok (.istore_n 2, 1) := by decide +kernel
theorem dX5_isSound_4 : decode cX5_isSound 4 = .ok (.iconst 0, 1) := by decide +kernel
theorem dX5_isSound_5 : decode cX5_isSound 5 = .ok (.istore_n 3, 1) := by decide +kernel
theorem dX5_isSound_6 : decode cX5_isSound 6 = .ok (.iload_n 3, 1) := by decide +kernel
theorem dX5_isSound_7 : decode cX5_isSound 7 = .ok (.bipush 28, 2) := by decide +kernel
theorem dX5_isSound_9 : decode cX5_isSound 9 = .ok (.if_icmp .ge 20, 3) := by decide +kernel
theorem dX5_isSound_12 : decode cX5_isSound 12 = .ok (.iload_n 2, 1) := by decide +kernel
theorem dX5_isSound_13 : decode cX5_isSound 13 = .ok (.aload_n 0, 1) := by decide +kernel
theorem dX5_isSound_14 : decode cX5_isSound 14 = .ok (.iload_n 1, 1) := by decide +kernel
theorem dX5_isSound_15 : decode cX5_isSound 15 = .ok (.iload_n 3, 1) := by decide +kernel
theorem dX5_isSound_16 : decode cX5_isSound 16 = .ok (.invokevirtual 139, 3) := by decide +kernel
theorem dX5_isSound_19 : decode cX5_isSound 19 = .ok (.invokestatic 93, 3) := by decide +kernel
theorem dX5_isSound_22 : decode cX5_isSound 22 = .ok (.istore_n 2, 1) := by decide +kernel
theorem dX5_isSound_23 : decode cX5_isSound 23 = .ok (.iinc 3 1, 3) := by decide +kernel
theorem dX5_isSound_26 : decode cX5_isSound 26 = .ok (.goto (-20), 3) := by decide +kernel
theorem dX5_isSound_29 : decode cX5_isSound 29 = .ok (.aload_n 0, 1) := by decide +kernel
theorem dX5_isSound_30 : decode cX5_isSound 30 = .ok (.iload_n 1, 1) := by decide +kernel
theorem dX5_isSound_31 : decode cX5_isSound 31 = .ok (.bipush 28, 2) := by decide +kernel
theorem dX5_isSound_33 : decode cX5_isSound 33 = .ok (.iconst 4, 1) := by decide +kernel
theorem dX5_isSound_34 : decode cX5_isSound 34 = .ok (.invokevirtual 142, 3) := by decide +kernel
theorem dX5_isSound_37 : decode cX5_isSound 37 = .ok (.iload_n 2, 1) := by decide +kernel
theorem dX5_isSound_38 : decode cX5_isSound 38 = .ok (.if_icmp .ne 7, 3) := by decide +kernel
theorem dX5_isSound_41 : decode cX5_isSound 41 = .ok (.iconst 1, 1) := by decide +kernel
theorem dX5_isSound_42 : decode cX5_isSound 42 = .ok (.goto 4, 3) := by decide +kernel
theorem dX5_isSound_45 : decode cX5_isSound 45 = .ok (.iconst 0, 1) := by decide +kernel
theorem dX5_isSound_46 : decode cX5_isSound 46 = .ok (.ireturn, 1) := by decide +kernel
theorem dX5_tells_0 : decode cX5_tells 0 = .ok (.aload_n 0, 1) := by decide +kernel
theorem dX5_tells_1 : decode cX5_tells 1 = .ok (.iload_n 1, 1) := by decide +kernel
theorem dX5_tells_2 : decode cX5_tells 2 = .ok (.iconst 0, 1) := by decide +kernel
theorem dX5_tells_3 : decode cX5_tells 3 = .ok (.invokevirtual 139, 3) := by decide +kernel
theorem dX5_tells_6 : decode cX5_tells 6 = .ok (.istore_n 2, 1) := by decide +kernel
theorem dX5_tells_7 : decode cX5_tells 7 = .ok (.aload_n 0, 1) := by decide +kernel
theorem dX5_tells_8 : decode cX5_tells 8 = .ok (.iload_n 1, 1) := by decide +kernel
theorem dX5_tells_9 : decode cX5_tells 9 = .ok (.iconst 5, 1) := by decide +kernel
theorem dX5_tells_10 : decode cX5_tells 10 = .ok (.invokevirtual 139, 3) := by decide +kernel
theorem dX5_tells_13 : decode cX5_tells 13 = .ok (.istore_n 3, 1) := by decide +kernel
theorem dX5_tells_14 : decode cX5_tells 14 = .ok (.aload_n 0, 1) := by decide +kernel
theorem dX5_tells_15 : decode cX5_tells 15 = .ok (.iload_n 1, 1) := by decide +kernel
theorem dX5_tells_16 : decode cX5_tells 16 = .ok (.invokevirtual 146, 3) := by decide +kernel
theorem dX5_tells_19 : decode cX5_tells 19 = .ok (.ifCond .eq 52, 3) := by decide +kernel
theorem dX5_tells_22 : decode cX5_tells 22 = .ok (.iload_n 2, 1) := by decide +kernel
theorem dX5_tells_23 : decode cX5_tells 23 = .ok (.iconst 1, 1) := by decide +kernel
theorem dX5_tells_24 : decode cX5_tells 24 = .ok (.if_icmp .ne 16, 3) := by decide +kernel
theorem dX5_tells_27 : decode cX5_tells 27 = .ok (.iload_n 3, 1) := by decide +kernel
theorem dX5_tells_28 : decode cX5_tells 28 = .ok (.iconst 1, 1) := by decide +kernel
theorem dX5_tells_29 : decode cX5_tells 29 = .ok (.if_icmp .lt 42, 3) := by decide +kernel
theorem dX5_tells_32 : decode cX5_tells 32 = .ok (.iload_n 3, 1) := by decide +kernel
theorem dX5_tells_33 : decode cX5_tells 33 = .ok (.iconst 4, 1) := by decide +kernel
theorem dX5_tells_34 : decode cX5_tells 34 = .ok (.if_icmp .gt 37, 3) := by decide +kernel
theorem dX5_tells_37 : decode cX5_tells 37 = .ok (.goto 30, 3) := by decide +kernel
theorem dX5_tells_40 : decode cX5_tells 40 = .ok (.iload_n 2, 1) := by decide +kernel
theorem dX5_tells_41 : decode cX5_tells 41 = .ok (.iconst 2, 1) := by decide +kernel
theorem dX5_tells_42 : decode cX5_tells 42 = .ok (.if_icmp .ne 29, 3) := by decide +kernel
theorem dX5_tells_45 : decode cX5_tells 45 = .ok (.iload_n 3, 1) := by decide +kernel
theorem dX5_tells_46 : decode cX5_tells 46 = .ok (.iconst 5, 1) := by decide +kernel
theorem dX5_tells_47 : decode cX5_tells 47 = .ok (.if_icmp .gt 24, 3) := by decide +kernel
theorem dX5_tells_50 : decode cX5_tells 50 = .ok (.aload_n 0, 1) := by decide +kernel
theorem dX5_tells_51 : decode cX5_tells 51 = .ok (.iload_n 1, 1) := by decide +kernel
theorem dX5_tells_52 : decode cX5_tells 52 = .ok (.bipush 26, 2) := by decide +kernel
theorem dX5_tells_54 : decode cX5_tells 54 = .ok (.invokevirtual 139, 3) := by decide +kernel
theorem dX5_tells_57 : decode cX5_tells 57 = .ok (.aload_n 0, 1) := by decide +kernel
theorem dX5_tells_58 : decode cX5_tells 58 = .ok (.iload_n 1, 1) := by decide +kernel
theorem dX5_tells_59 : decode cX5_tells 59 = .ok (.bipush 27, 2) := by decide +kernel
theorem dX5_tells_61 : decode cX5_tells 61 = .ok (.invokevirtual 139, 3) := by decide +kernel
theorem dX5_tells_64 : decode cX5_tells 64 = .ok (.if_icmp .ge 7, 3) := by decide +kernel
theorem dX5_tells_67 : decode cX5_tells 67 = .ok (.iconst 1, 1) := by decide +kernel
theorem dX5_tells_68 : decode cX5_tells 68 = .ok (.goto 4, 3) := by decide +kernel
theorem dX5_tells_71 : decode cX5_tells 71 = .ok (.iconst 0, 1) := by decide +kernel
theorem dX5_tells_72 : decode cX5_tells 72 = .ok (.istore 4, 2) := by decide +kernel
theorem dX5_tells_74 : decode cX5_tells 74 = .ok (.iconst 0, 1) := by decide +kernel
theorem dX5_tells_75 : decode cX5_tells 75 = .ok (.istore 5, 2) := by decide +kernel
theorem dX5_tells_77 : decode cX5_tells 77 = .ok (.iload 5, 2) := by decide +kernel
theorem dX5_tells_79 : decode cX5_tells 79 = .ok (.iload_n 3, 1) := by decide +kernel
theorem dX5_tells_80 : decode cX5_tells 80 = .ok (.if_icmp .ge 85, 3) := by decide +kernel
theorem dX5_tells_83 : decode cX5_tells 83 = .ok (.iload 4, 2) := by decide +kernel
theorem dX5_tells_85 : decode cX5_tells 85 = .ok (.ifCond .eq 80, 3) := by decide +kernel
theorem dX5_tells_88 : decode cX5_tells 88 = .ok (.iload_n 2, 1) := by decide +kernel
theorem dX5_tells_89 : decode cX5_tells 89 = .ok (.iconst 1, 1) := by decide +kernel
theorem dX5_tells_90 : decode cX5_tells 90 = .ok (.if_icmp .ne 45, 3) := by decide +kernel
theorem dX5_tells_93 : decode cX5_tells 93 = .ok (.aload_n 0, 1) := by decide +kernel
theorem dX5_tells_94 : decode cX5_tells 94 = .ok (.iload_n 1, 1) := by decide +kernel
theorem dX5_tells_95 : decode cX5_tells 95 = .ok (.bipush 6, 2) := by decide +kernel
theorem dX5_tells_97 : decode cX5_tells 97 = .ok (.iconst 5, 1) := by decide +kernel
theorem dX5_tells_98 : decode cX5_tells 98 = .ok (.iload 5, 2) := by decide +kernel
theorem dX5_tells_100 : decode cX5_tells 100 = .ok (.imul, 1) := by decide +kernel
theorem dX5_tells_101 : decode cX5_tells 101 = .ok (.iadd, 1) := by decide +kernel
theorem dX5_tells_102 : decode cX5_tells 102 = .ok (.invokevirtual 139, 3) := by decide +kernel
theorem dX5_tells_105 : decode cX5_tells 105 = .ok (.bipush 12, 2) := by decide +kernel
theorem dX5_tells_107 : decode cX5_tells 107 = .ok (.if_icmp .ge 24, 3) := by decide +kernel
theorem dX5_tells_110 : decode cX5_tells 110 = .ok (.aload_n 0, 1) := by decide +kernel
theorem dX5_tells_111 : decode cX5_tells 111 = .ok (.iload_n 1, 1) := by decide +kernel
theorem dX5_tells_112 : decode cX5_tells 112 = .ok (.bipush 7, 2) := by decide +kernel
theorem dX5_tells_114 : decode cX5_tells 114 = .ok (.iconst 5, 1) := by decide +kernel
theorem dX5_tells_115 : decode cX5_tells 115 = .ok (.iload 5, 2) := by decide +kernel
theorem dX5_tells_117 : decode cX5_tells 117 = .ok (.imul, 1) := by decide +kernel
theorem dX5_tells_118 : decode cX5_tells 118 = .ok (.iadd, 1) := by decide +kernel
theorem dX5_tells_119 : decode cX5_tells 119 = .ok (.invokevirtual 139, 3) := by decide +kernel
theorem dX5_tells_122 : decode cX5_tells 122 = .ok (.bipush 32, 2) := by decide +kernel
theorem dX5_tells_124 : decode cX5_tells 124 = .ok (.if_icmp .ge 7, 3) := by decide +kernel
theorem dX5_tells_127 : decode cX5_tells 127 = .ok (.iconst 1, 1) := by decide +kernel
theorem dX5_tells_128 : decode cX5_tells 128 = .ok (.goto 29, 3) := by decide +kernel
theorem dX5_tells_131 : decode cX5_tells 131 = .ok (.iconst 0, 1) := by decide +kernel
theorem dX5_tells_132 : decode cX5_tells 132 = .ok (.goto 25, 3) := by decide +kernel
theorem dX5_tells_135 : decode cX5_tells 135 = .ok (.aload_n 0, 1) := by decide +kernel
theorem dX5_tells_136 : decode cX5_tells 136 = .ok (.iload_n 1, 1) := by decide +kernel
theorem dX5_tells_137 : decode cX5_tells 137 = .ok (.bipush 6, 2) := by decide +kernel
theorem dX5_tells_139 : decode cX5_tells 139 = .ok (.iconst 4, 1) := by decide +kernel
theorem dX5_tells_140 : decode cX5_tells 140 = .ok (.iload 5, 2) := by decide +kernel
theorem dX5_tells_142 : decode cX5_tells 142 = .ok (.imul, 1) := by decide +kernel
theorem dX5_tells_143 : decode cX5_tells 143 = .ok (.iadd, 1) := by decide +kernel
theorem dX5_tells_144 : decode cX5_tells 144 = .ok (.invokevirtual 139, 3) := by decide +kernel
theorem dX5_tells_147 : decode cX5_tells 147 = .ok (.bipush 32, 2) := by decide +kernel
theorem dX5_tells_149 : decode cX5_tells 149 = .ok (.if_icmp .ge 7, 3) := by decide +kernel
theorem dX5_tells_152 : decode cX5_tells 152 = .ok (.iconst 1, 1) := by decide +kernel
theorem dX5_tells_153 : decode cX5_tells 153 = .ok (.goto 4, 3) := by decide +kernel
theorem dX5_tells_156 : decode cX5_tells 156 = .ok (.iconst 0, 1) := by decide +kernel
theorem dX5_tells_157 : decode cX5_tells 157 = .ok (.istore 4, 2) := by decide +kernel
theorem dX5_tells_159 : decode cX5_tells 159 = .ok (.iinc 5 1, 3) := by decide +kernel
theorem dX5_tells_162 : decode cX5_tells 162 = .ok (.goto (-85), 3) := by decide +kernel
theorem dX5_tells_165 : decode cX5_tells 165 = .ok (.iload 4, 2) := by decide +kernel
theorem dX5_tells_167 : decode cX5_tells 167 = .ok (.ireturn, 1) := by decide +kernel
theorem dX5_serialAt_0 : decode cX5_serialAt 0 = .ok (.aload_n 0, 1) := by decide +kernel
theorem dX5_serialAt_1 : decode cX5_serialAt 1 = .ok (.iload_n 1, 1) := by decide +kernel
theorem dX5_serialAt_2 : decode cX5_serialAt 2 = .ok (.iconst 1, 1) := by decide +kernel
theorem dX5_serialAt_3 : decode cX5_serialAt 3 = .ok (.iconst 4, 1) := by decide +kernel
theorem dX5_serialAt_4 : decode cX5_serialAt 4 = .ok (.invokevirtual 142, 3) := by decide +kernel
theorem dX5_serialAt_7 : decode cX5_serialAt 7 = .ok (.ireturn, 1) := by decide +kernel
theorem dX5_pagesFrom_0 : decode cX5_pagesFrom 0 = .ok (.aload_n 0, 1) := by decide +kernel
theorem dX5_pagesFrom_1 : decode cX5_pagesFrom 1 = .ok (.iload_n 1, 1) := by decide +kernel
theorem dX5_pagesFrom_2 : decode cX5_pagesFrom 2 = .ok (.bipush 27, 2) := by decide +kernel
theorem dX5_pagesFrom_4 : decode cX5_pagesFrom 4 = .ok (.invokevirtual 139, 3) := by decide +kernel
theorem dX5_pagesFrom_7 : decode cX5_pagesFrom 7 = .ok (.istore_n 2, 1) := by decide +kernel
theorem dX5_pagesFrom_8 : decode cX5_pagesFrom 8 = .ok (.iload_n 2, 1) := by decide +kernel
theorem dX5_pagesFrom_9 : decode cX5_pagesFrom 9 = .ok (.aload_n 0, 1) := by decide +kernel
theorem dX5_pagesFrom_10 : decode cX5_pagesFrom 10 = .ok (.getfield 45, 3) := by decide +kernel
theorem dX5_pagesFrom_13 : decode cX5_pagesFrom 13 = .ok (.if_icmp .gt 7, 3) := by decide +kernel
theorem dX5_pagesFrom_16 : decode cX5_pagesFrom 16 = .ok (.iconst 1, 1) := by decide +kernel
theorem dX5_pagesFrom_17 : decode cX5_pagesFrom 17 = .ok (.goto 4, 3) := by decide +kernel
theorem dX5_pagesFrom_20 : decode cX5_pagesFrom 20 = .ok (.iconst 0, 1) := by decide +kernel
theorem dX5_pagesFrom_21 : decode cX5_pagesFrom 21 = .ok (.istore_n 3, 1) := by decide +kernel
theorem dX5_pagesFrom_22 : decode cX5_pagesFrom 22 = .ok (.iconst 0, 1) := by decide +kernel
theorem dX5_pagesFrom_23 : decode cX5_pagesFrom 23 = .ok (.istore 4, 2) := by decide +kernel
theorem dX5_pagesFrom_25 : decode cX5_pagesFrom 25 = .ok (.iload 4, 2) := by decide +kernel
theorem dX5_pagesFrom_27 : decode cX5_pagesFrom 27 = .ok (.iload_n 2, 1) := by decide +kernel
theorem dX5_pagesFrom_28 : decode cX5_pagesFrom 28 = .ok (.if_icmp .ge 92, 3) := by decide +kernel
theorem dX5_pagesFrom_31 : decode cX5_pagesFrom 31 = .ok (.iload_n 3, 1) := by decide +kernel
theorem dX5_pagesFrom_32 : decode cX5_pagesFrom 32 = .ok (.ifCond .eq 88, 3) := by decide +kernel
theorem dX5_pagesFrom_35 : decode cX5_pagesFrom 35 = .ok (.iload_n 1, 1) := by decide +kernel
theorem dX5_pagesFrom_36 : decode cX5_pagesFrom 36 = .ok (.iload 4, 2) := by decide +kernel
theorem dX5_pagesFrom_38 : decode cX5_pagesFrom 38 = .ok (.iadd, 1) := by decide +kernel
theorem dX5_pagesFrom_39 : decode cX5_pagesFrom 39 = .ok (.aload_n 0, 1) := by decide +kernel
theorem dX5_pagesFrom_40 : decode cX5_pagesFrom 40 = .ok (.getfield 45, 3) := by decide +kernel
theorem dX5_pagesFrom_43 : decode cX5_pagesFrom 43 = .ok (.irem, 1) := by decide +kernel
theorem dX5_pagesFrom_44 : decode cX5_pagesFrom 44 = .ok (.istore 5, 2) := by decide +kernel
theorem dX5_pagesFrom_46 : decode cX5_pagesFrom 46 = .ok (.aload_n 0, 1) := by decide +kernel
theorem dX5_pagesFrom_47 : decode cX5_pagesFrom 47 = .ok (.iload 5, 2) := by decide +kernel
theorem dX5_pagesFrom_49 : decode cX5_pagesFrom 49 = .ok (.invokevirtual 149, 3) := by decide +kernel
theorem dX5_pagesFrom_52 : decode cX5_pagesFrom 52 = .ok (.ifCond .eq 60, 3) := by decide +kernel
theorem dX5_pagesFrom_55 : decode cX5_pagesFrom 55 = .ok (.aload_n 0, 1) := by decide +kernel
theorem dX5_pagesFrom_56 : decode cX5_pagesFrom 56 = .ok (.iload 5, 2) := by decide +kernel
theorem dX5_pagesFrom_58 : decode cX5_pagesFrom 58 = .ok (.iconst 0, 1) := by decide +kernel
theorem dX5_pagesFrom_59 : decode cX5_pagesFrom 59 = .ok (.invokevirtual 139, 3) := by decide +kernel
theorem dX5_pagesFrom_62 : decode cX5_pagesFrom 62 = .ok (.iconst 2, 1) := by decide +kernel
theorem dX5_pagesFrom_63 : decode cX5_pagesFrom 63 = .ok (.if_icmp .ne 49, 3) := by decide +kernel
theorem dX5_pagesFrom_66 : decode cX5_pagesFrom 66 = .ok (.aload_n 0, 1) := by decide +kernel
theorem dX5_pagesFrom_67 : decode cX5_pagesFrom 67 = .ok (.iload 5, 2) := by decide +kernel
theorem dX5_pagesFrom_69 : decode cX5_pagesFrom 69 = .ok (.bipush 26, 2) := by decide +kernel
theorem dX5_pagesFrom_71 : decode cX5_pagesFrom 71 = .ok (.invokevirtual 139, 3) := by decide +kernel
theorem dX5_pagesFrom_74 : decode cX5_pagesFrom 74 = .ok (.iload 4, 2) := by decide +kernel
theorem dX5_pagesFrom_76 : decode cX5_pagesFrom 76 = .ok (.if_icmp .ne 36, 3) := by decide +kernel
theorem dX5_pagesFrom_79 : decode cX5_pagesFrom 79 = .ok (.aload_n 0, 1) := by decide +kernel
theorem dX5_pagesFrom_80 : decode cX5_pagesFrom 80 = .ok (.iload 5, 2) := by decide +kernel
theorem dX5_pagesFrom_82 : decode cX5_pagesFrom 82 = .ok (.bipush 27, 2) := by decide +kernel
theorem dX5_pagesFrom_84 : decode cX5_pagesFrom 84 = .ok (.invokevirtual 139, 3) := by decide +kernel
theorem dX5_pagesFrom_87 : decode cX5_pagesFrom 87 = .ok (.iload_n 2, 1) := by decide +kernel
theorem dX5_pagesFrom_88 : decode cX5_pagesFrom 88 = .ok (.if_icmp .ne 24, 3) := by decide +kernel
theorem dX5_pagesFrom_91 : decode cX5_pagesFrom 91 = .ok (.aload_n 0, 1) := by decide +kernel
theorem dX5_pagesFrom_92 : decode cX5_pagesFrom 92 = .ok (.iload 5, 2) := by decide +kernel
theorem dX5_pagesFrom_94 : decode cX5_pagesFrom 94 = .ok (.invokevirtual 152, 3) := by decide +kernel
theorem dX5_pagesFrom_97 : decode cX5_pagesFrom 97 = .ok (.aload_n 0, 1) := by decide +kernel
theorem dX5_pagesFrom_98 : decode cX5_pagesFrom 98 = .ok (.iload_n 1, 1) := by decide +kernel
theorem dX5_pagesFrom_99 : decode cX5_pagesFrom 99 = .ok (.invokevirtual 152, 3) := by decide +kernel
theorem dX5_pagesFrom_102 : decode cX5_pagesFrom 102 = .ok (.iload 4, 2) := by decide +kernel
theorem dX5_pagesFrom_104 : decode cX5_pagesFrom 104 = .ok (.iadd, 1) := by decide +kernel
theorem dX5_pagesFrom_105 : decode cX5_pagesFrom 105 = .ok (.if_icmp .ne 7, 3) := by decide +kernel
theorem dX5_pagesFrom_108 : decode cX5_pagesFrom 108 = .ok (.iconst 1, 1) := by decide +kernel
theorem dX5_pagesFrom_109 : decode cX5_pagesFrom 109 = .ok (.goto 4, 3) := by decide +kernel
theorem dX5_pagesFrom_112 : decode cX5_pagesFrom 112 = .ok (.iconst 0, 1) := by decide +kernel
theorem dX5_pagesFrom_113 : decode cX5_pagesFrom 113 = .ok (.istore_n 3, 1) := by decide +kernel
theorem dX5_pagesFrom_114 : decode cX5_pagesFrom 114 = .ok (.iinc 4 1, 3) := by decide +kernel
theorem dX5_pagesFrom_117 : decode cX5_pagesFrom 117 = .ok (.goto (-92), 3) := by decide +kernel
theorem dX5_pagesFrom_120 : decode cX5_pagesFrom 120 = .ok (.iload_n 3, 1) := by decide +kernel
theorem dX5_pagesFrom_121 : decode cX5_pagesFrom 121 = .ok (.ifCond .eq 7, 3) := by decide +kernel
theorem dX5_pagesFrom_124 : decode cX5_pagesFrom 124 = .ok (.iload_n 2, 1) := by decide +kernel
theorem dX5_pagesFrom_125 : decode cX5_pagesFrom 125 = .ok (.goto 4, 3) := by decide +kernel
theorem dX5_pagesFrom_128 : decode cX5_pagesFrom 128 = .ok (.iconst 0, 1) := by decide +kernel
theorem dX5_pagesFrom_129 : decode cX5_pagesFrom 129 = .ok (.ireturn, 1) := by decide +kernel
theorem dX5_redo_0 : decode cX5_redo 0 = .ok (.iconst 0, 1) := by decide +kernel
theorem dX5_redo_1 : decode cX5_redo 1 = .ok (.istore_n 2, 1) := by decide +kernel
theorem dX5_redo_2 : decode cX5_redo 2 = .ok (.iload_n 2, 1) := by decide +kernel
theorem dX5_redo_3 : decode cX5_redo 3 = .ok (.aload_n 0, 1) := by decide +kernel
theorem dX5_redo_4 : decode cX5_redo 4 = .ok (.iload_n 1, 1) := by decide +kernel
theorem dX5_redo_5 : decode cX5_redo 5 = .ok (.iconst 5, 1) := by decide +kernel
theorem dX5_redo_6 : decode cX5_redo 6 = .ok (.invokevirtual 139, 3) := by decide +kernel
theorem dX5_redo_9 : decode cX5_redo 9 = .ok (.if_icmp .ge 117, 3) := by decide +kernel
theorem dX5_redo_12 : decode cX5_redo 12 = .ok (.aload_n 0, 1) := by decide +kernel
theorem dX5_redo_13 : decode cX5_redo 13 = .ok (.iload_n 1, 1) := by decide +kernel
theorem dX5_redo_14 : decode cX5_redo 14 = .ok (.bipush 6, 2) := by decide +kernel
theorem dX5_redo_16 : decode cX5_redo 16 = .ok (.iconst 5, 1) := by decide +kernel
theorem dX5_redo_17 : decode cX5_redo 17 = .ok (.iload_n 2, 1) := by decide +kernel
theorem dX5_redo_18 : decode cX5_redo 18 = .ok (.imul, 1) := by decide +kernel
theorem dX5_redo_19 : decode cX5_redo 19 = .ok (.iadd, 1) := by decide +kernel
theorem dX5_redo_20 : decode cX5_redo 20 = .ok (.invokevirtual 139, 3) := by decide +kernel
theorem dX5_redo_23 : decode cX5_redo 23 = .ok (.istore_n 3, 1) := by decide +kernel
theorem dX5_redo_24 : decode cX5_redo 24 = .ok (.aload_n 0, 1) := by decide +kernel
theorem dX5_redo_25 : decode cX5_redo 25 = .ok (.iload_n 1, 1) := by decide +kernel
theorem dX5_redo_26 : decode cX5_redo 26 = .ok (.bipush 7, 2) := by decide +kernel
theorem dX5_redo_28 : decode cX5_redo 28 = .ok (.iconst 5, 1) := by decide +kernel
theorem dX5_redo_29 : decode cX5_redo 29 = .ok (.iload_n 2, 1) := by decide +kernel
theorem dX5_redo_30 : decode cX5_redo 30 = .ok (.imul, 1) := by decide +kernel
theorem dX5_redo_31 : decode cX5_redo 31 = .ok (.iadd, 1) := by decide +kernel
theorem dX5_redo_32 : decode cX5_redo 32 = .ok (.invokevirtual 139, 3) := by decide +kernel
theorem dX5_redo_35 : decode cX5_redo 35 = .ok (.istore 4, 2) := by decide +kernel
theorem dX5_redo_37 : decode cX5_redo 37 = .ok (.iload_n 3, 1) := by decide +kernel
theorem dX5_redo_38 : decode cX5_redo 38 = .ok (.iconst 4, 1) := by decide +kernel
theorem dX5_redo_39 : decode cX5_redo 39 = .ok (.idiv, 1) := by decide +kernel
theorem dX5_redo_40 : decode cX5_redo 40 = .ok (.istore 5, 2) := by decide +kernel
theorem dX5_redo_42 : decode cX5_redo 42 = .ok (.iload_n 3, 1) := by decide +kernel
theorem dX5_redo_43 : decode cX5_redo 43 = .ok (.iconst 4, 1) := by decide +kernel
theorem dX5_redo_44 : decode cX5_redo 44 = .ok (.irem, 1) := by decide +kernel
theorem dX5_redo_45 : decode cX5_redo 45 = .ok (.istore 6, 2) := by decide +kernel
theorem dX5_redo_47 : decode cX5_redo 47 = .ok (.iload 6, 2) := by decide +kernel
theorem dX5_redo_49 : decode cX5_redo 49 = .ok (.iconst 2, 1) := by decide +kernel
theorem dX5_redo_50 : decode cX5_redo 50 = .ok (.if_icmp .ge 52, 3) := by decide +kernel
theorem dX5_redo_53 : decode cX5_redo 53 = .ok (.aload_n 0, 1) := by decide +kernel
theorem dX5_redo_54 : decode cX5_redo 54 = .ok (.getfield 32, 3) := by decide +kernel
theorem dX5_redo_57 : decode cX5_redo 57 = .ok (.iload 5, 2) := by decide +kernel
theorem dX5_redo_59 : decode cX5_redo 59 = .ok (.iconst 1, 1) := by decide +kernel
theorem dX5_redo_60 : decode cX5_redo 60 = .ok (.bastore, 1) := by decide +kernel
theorem dX5_redo_61 : decode cX5_redo 61 = .ok (.aload_n 0, 1) := by decide +kernel
theorem dX5_redo_62 : decode cX5_redo 62 = .ok (.getfield 36, 3) := by decide +kernel
theorem dX5_redo_65 : decode cX5_redo 65 = .ok (.iload 4, 2) := by decide +kernel
theorem dX5_redo_67 : decode cX5_redo 67 = .ok (.iload 5, 2) := by decide +kernel
theorem dX5_redo_69 : decode cX5_redo 69 = .ok (.iastore, 1) := by decide +kernel
theorem dX5_redo_70 : decode cX5_redo 70 = .ok (.aload_n 0, 1) := by decide +kernel
theorem dX5_redo_71 : decode cX5_redo 71 = .ok (.getfield 39, 3) := by decide +kernel
theorem dX5_redo_74 : decode cX5_redo 74 = .ok (.iload 4, 2) := by decide +kernel
theorem dX5_redo_76 : decode cX5_redo 76 = .ok (.iload 6, 2) := by decide +kernel
theorem dX5_redo_78 : decode cX5_redo 78 = .ok (.iconst 1, 1) := by decide +kernel
theorem dX5_redo_79 : decode cX5_redo 79 = .ok (.if_icmp .ne 7, 3) := by decide +kernel
theorem dX5_redo_82 : decode cX5_redo 82 = .ok (.iconst (-1), 1) := by decide +kernel
theorem dX5_redo_83 : decode cX5_redo 83 = .ok (.goto 15, 3) := by decide +kernel
theorem dX5_redo_86 : decode cX5_redo 86 = .ok (.aload_n 0, 1) := by decide +kernel
theorem dX5_redo_87 : decode cX5_redo 87 = .ok (.iload_n 1, 1) := by decide +kernel
theorem dX5_redo_88 : decode cX5_redo 88 = .ok (.bipush 8, 2) := by decide +kernel
theorem dX5_redo_90 : decode cX5_redo 90 = .ok (.iconst 5, 1) := by decide +kernel
theorem dX5_redo_91 : decode cX5_redo 91 = .ok (.iload_n 2, 1) := by decide +kernel
theorem dX5_redo_92 : decode cX5_redo 92 = .ok (.imul, 1) := by decide +kernel
theorem dX5_redo_93 : decode cX5_redo 93 = .ok (.iadd, 1) := by decide +kernel
theorem dX5_redo_94 : decode cX5_redo 94 = .ok (.iconst 3, 1) := by decide +kernel
theorem dX5_redo_95 : decode cX5_redo 95 = .ok (.invokevirtual 142, 3) := by decide +kernel
theorem dX5_redo_98 : decode cX5_redo 98 = .ok (.iastore, 1) := by decide +kernel
theorem dX5_redo_99 : decode cX5_redo 99 = .ok (.goto 21, 3) := by decide +kernel
theorem dX5_redo_102 : decode cX5_redo 102 = .ok (.aload_n 0, 1) := by decide +kernel
theorem dX5_redo_103 : decode cX5_redo 103 = .ok (.iload 5, 2) := by decide +kernel
theorem dX5_redo_105 : decode cX5_redo 105 = .ok (.iload 6, 2) := by decide +kernel
theorem dX5_redo_107 : decode cX5_redo 107 = .ok (.iconst 2, 1) := by decide +kernel
theorem dX5_redo_108 : decode cX5_redo 108 = .ok (.if_icmp .ne 7, 3) := by decide +kernel
theorem dX5_redo_111 : decode cX5_redo 111 = .ok (.iconst 1, 1) := by decide +kernel
theorem dX5_redo_112 : decode cX5_redo 112 = .ok (.goto 4, 3) := by decide +kernel
theorem dX5_redo_115 : decode cX5_redo 115 = .ok (.iconst 0, 1) := by decide +kernel
theorem dX5_redo_116 : decode cX5_redo 116 = .ok (.invokevirtual 129, 3) := by decide +kernel
theorem dX5_redo_119 : decode cX5_redo 119 = .ok (.pop, 1) := by decide +kernel
theorem dX5_redo_120 : decode cX5_redo 120 = .ok (.iinc 2 1, 3) := by decide +kernel
theorem dX5_redo_123 : decode cX5_redo 123 = .ok (.goto (-121), 3) := by decide +kernel
theorem dX5_redo_126 : decode cX5_redo 126 = .ok (.return_, 1) := by decide +kernel
theorem dX5_start_0 : decode cX5_start 0 = .ok (.aload_n 0, 1) := by decide +kernel
theorem dX5_start_1 : decode cX5_start 1 = .ok (.getfield 64, 3) := by decide +kernel
theorem dX5_start_4 : decode cX5_start 4 = .ok (.ifCond .ne 5, 3) := by decide +kernel
theorem dX5_start_7 : decode cX5_start 7 = .ok (.iconst (-1), 1) := by decide +kernel
theorem dX5_start_8 : decode cX5_start 8 = .ok (.ireturn, 1) := by decide +kernel
theorem dX5_start_9 : decode cX5_start 9 = .ok (.iconst (-1), 1) := by decide +kernel
theorem dX5_start_10 : decode cX5_start 10 = .ok (.istore_n 1, 1) := by decide +kernel
theorem dX5_start_11 : decode cX5_start 11 = .ok (.iconst 0, 1) := by decide +kernel
theorem dX5_start_12 : decode cX5_start 12 = .ok (.istore_n 2, 1) := by decide +kernel
theorem dX5_start_13 : decode cX5_start 13 = .ok (.iload_n 2, 1) := by decide +kernel
theorem dX5_start_14 : decode cX5_start 14 = .ok (.aload_n 0, 1) := by decide +kernel
theorem dX5_start_15 : decode cX5_start 15 = .ok (.getfield 45, 3) := by decide +kernel
theorem dX5_start_18 : decode cX5_start 18 = .ok (.if_icmp .ge 56, 3) := by decide +kernel
theorem dX5_start_21 : decode cX5_start 21 = .ok (.iload_n 1, 1) := by decide +kernel
theorem dX5_start_22 : decode cX5_start 22 = .ok (.ifCond .lt 22, 3) := by decide +kernel
theorem dX5_start_25 : decode cX5_start 25 = .ok (.aload_n 0, 1) := by decide +kernel
theorem dX5_start_26 : decode cX5_start 26 = .ok (.iload_n 2, 1) := by decide +kernel
theorem dX5_start_27 : decode cX5_start 27 = .ok (.invokevirtual 152, 3) := by decide +kernel
theorem dX5_start_30 : decode cX5_start 30 = .ok (.ldc 156, 2) := by decide +kernel
theorem dX5_start_32 : decode cX5_start 32 = .ok (.iadd, 1) := by decide +kernel
theorem dX5_start_33 : decode cX5_start 33 = .ok (.aload_n 0, 1) := by decide +kernel
theorem dX5_start_34 : decode cX5_start 34 = .ok (.iload_n 1, 1) := by decide +kernel
theorem dX5_start_35 : decode cX5_start 35 = .ok (.invokevirtual 152, 3) := by decide +kernel
theorem dX5_start_38 : decode cX5_start 38 = .ok (.ldc 156, 2) := by decide +kernel
theorem dX5_start_40 : decode cX5_start 40 = .ok (.iadd, 1) := by decide +kernel
theorem dX5_start_41 : decode cX5_start 41 = .ok (.if_icmp .le 7, 3) := by decide +kernel
theorem dX5_start_44 : decode cX5_start 44 = .ok (.iconst 1, 1) := by decide +kernel
theorem dX5_start_45 : decode cX5_start 45 = .ok (.goto 4, 3) := by decide +kernel
theorem dX5_start_48 : decode cX5_start 48 = .ok (.iconst 0, 1) := by decide +kernel
theorem dX5_start_49 : decode cX5_start 49 = .ok (.istore_n 3, 1) := by decide +kernel
theorem dX5_start_50 : decode cX5_start 50 = .ok (.iload_n 3, 1) := by decide +kernel
theorem dX5_start_51 : decode cX5_start 51 = .ok (.ifCond .eq 15, 3) := by decide +kernel
theorem dX5_start_54 : decode cX5_start 54 = .ok (.aload_n 0, 1) := by decide +kernel
theorem dX5_start_55 : decode cX5_start 55 = .ok (.iload_n 2, 1) := by decide +kernel
theorem dX5_start_56 : decode cX5_start 56 = .ok (.invokevirtual 157, 3) := by decide +kernel
theorem dX5_start_59 : decode cX5_start 59 = .ok (.ifCond .le 7, 3) := by decide +kernel
theorem dX5_start_62 : decode cX5_start 62 = .ok (.iload_n 2, 1) := by decide +kernel
theorem dX5_start_63 : decode cX5_start 63 = .ok (.goto 4, 3) := by decide +kernel
theorem dX5_start_66 : decode cX5_start 66 = .ok (.iload_n 1, 1) := by decide +kernel
theorem dX5_start_67 : decode cX5_start 67 = .ok (.istore_n 1, 1) := by decide +kernel
theorem dX5_start_68 : decode cX5_start 68 = .ok (.iinc 2 1, 3) := by decide +kernel
theorem dX5_start_71 : decode cX5_start 71 = .ok (.goto (-58), 3) := by decide +kernel
theorem dX5_start_74 : decode cX5_start 74 = .ok (.iload_n 1, 1) := by decide +kernel
theorem dX5_start_75 : decode cX5_start 75 = .ok (.ifCond .ge 6, 3) := by decide +kernel
theorem dX5_start_78 : decode cX5_start 78 = .ok (.bipush (-4), 2) := by decide +kernel
theorem dX5_start_80 : decode cX5_start 80 = .ok (.ireturn, 1) := by decide +kernel
theorem dX5_start_81 : decode cX5_start 81 = .ok (.aload_n 0, 1) := by decide +kernel
theorem dX5_start_82 : decode cX5_start 82 = .ok (.invokevirtual 61, 3) := by decide +kernel
theorem dX5_start_85 : decode cX5_start 85 = .ok (.aload_n 0, 1) := by decide +kernel
theorem dX5_start_86 : decode cX5_start 86 = .ok (.iload_n 1, 1) := by decide +kernel
theorem dX5_start_87 : decode cX5_start 87 = .ok (.invokevirtual 157, 3) := by decide +kernel
theorem dX5_start_90 : decode cX5_start 90 = .ok (.istore_n 2, 1) := by decide +kernel
theorem dX5_start_91 : decode cX5_start 91 = .ok (.iconst 0, 1) := by decide +kernel
theorem dX5_start_92 : decode cX5_start 92 = .ok (.istore_n 3, 1) := by decide +kernel
theorem dX5_start_93 : decode cX5_start 93 = .ok (.iload_n 3, 1) := by decide +kernel
theorem dX5_start_94 : decode cX5_start 94 = .ok (.iload_n 2, 1) := by decide +kernel
theorem dX5_start_95 : decode cX5_start 95 = .ok (.if_icmp .ge 72, 3) := by decide +kernel
theorem dX5_start_98 : decode cX5_start 98 = .ok (.iload_n 1, 1) := by decide +kernel
theorem dX5_start_99 : decode cX5_start 99 = .ok (.iload_n 3, 1) := by decide +kernel
theorem dX5_start_100 : decode cX5_start 100 = .ok (.iadd, 1) := by decide +kernel
theorem dX5_start_101 : decode cX5_start 101 = .ok (.aload_n 0, 1) := by decide +kernel
theorem dX5_start_102 : decode cX5_start 102 = .ok (.getfield 45, 3) := by decide +kernel
theorem dX5_start_105 : decode cX5_start 105 = .ok (.irem, 1) := by decide +kernel
theorem dX5_start_106 : decode cX5_start 106 = .ok (.istore 4, 2) := by decide +kernel
theorem dX5_start_108 : decode cX5_start 108 = .ok (.iconst 0, 1) := by decide +kernel
theorem dX5_start_109 : decode cX5_start 109 = .ok (.istore 5, 2) := by decide +kernel
theorem dX5_start_111 : decode cX5_start 111 = .ok (.iload 5, 2) := by decide +kernel
theorem dX5_start_113 : decode cX5_start 113 = .ok (.aload_n 0, 1) := by decide +kernel
theorem dX5_start_114 : decode cX5_start 114 = .ok (.iload 4, 2) := by decide +kernel
theorem dX5_start_116 : decode cX5_start 116 = .ok (.iconst 5, 1) := by decide +kernel
theorem dX5_start_117 : decode cX5_start 117 = .ok (.invokevirtual 139, 3) := by decide +kernel
theorem dX5_start_120 : decode cX5_start 120 = .ok (.if_icmp .ge 41, 3) := by decide +kernel
theorem dX5_start_123 : decode cX5_start 123 = .ok (.aload_n 0, 1) := by decide +kernel
theorem dX5_start_124 : decode cX5_start 124 = .ok (.getfield 29, 3) := by decide +kernel
theorem dX5_start_127 : decode cX5_start 127 = .ok (.aload_n 0, 1) := by decide +kernel
theorem dX5_start_128 : decode cX5_start 128 = .ok (.iload 4, 2) := by decide +kernel
theorem dX5_start_130 : decode cX5_start 130 = .ok (.bipush 6, 2) := by decide +kernel
theorem dX5_start_132 : decode cX5_start 132 = .ok (.iconst 4, 1) := by decide +kernel
theorem dX5_start_133 : decode cX5_start 133 = .ok (.iload 5, 2) := by decide +kernel
theorem dX5_start_135 : decode cX5_start 135 = .ok (.imul, 1) := by decide +kernel
theorem dX5_start_136 : decode cX5_start 136 = .ok (.iadd, 1) := by decide +kernel
theorem dX5_start_137 : decode cX5_start 137 = .ok (.invokevirtual 139, 3) := by decide +kernel
theorem dX5_start_140 : decode cX5_start 140 = .ok (.aload_n 0, 1) := by decide +kernel
theorem dX5_start_141 : decode cX5_start 141 = .ok (.iload 4, 2) := by decide +kernel
theorem dX5_start_143 : decode cX5_start 143 = .ok (.bipush 7, 2) := by decide +kernel
theorem dX5_start_145 : decode cX5_start 145 = .ok (.iconst 4, 1) := by decide +kernel
theorem dX5_start_146 : decode cX5_start 146 = .ok (.iload 5, 2) := by decide +kernel
theorem dX5_start_148 : decode cX5_start 148 = .ok (.imul, 1) := by decide +kernel
theorem dX5_start_149 : decode cX5_start 149 = .ok (.iadd, 1) := by decide +kernel
theorem dX5_start_150 : decode cX5_start 150 = .ok (.iconst 3, 1) := by decide +kernel
theorem dX5_start_151 : decode cX5_start 151 = .ok (.invokevirtual 142, 3) := by decide +kernel
theorem dX5_start_154 : decode cX5_start 154 = .ok (.iastore, 1) := by decide +kernel
theorem dX5_start_155 : decode cX5_start 155 = .ok (.iinc 5 1, 3) := by decide +kernel
theorem dX5_start_158 : decode cX5_start 158 = .ok (.goto (-47), 3) := by decide +kernel
theorem dX5_start_161 : decode cX5_start 161 = .ok (.iinc 3 1, 3) := by decide +kernel
theorem dX5_start_164 : decode cX5_start 164 = .ok (.goto (-71), 3) := by decide +kernel
theorem dX5_start_167 : decode cX5_start 167 = .ok (.iload_n 2, 1) := by decide +kernel
theorem dX5_start_168 : decode cX5_start 168 = .ok (.istore_n 3, 1) := by decide +kernel
theorem dX5_start_169 : decode cX5_start 169 = .ok (.iload_n 1, 1) := by decide +kernel
theorem dX5_start_170 : decode cX5_start 170 = .ok (.iload_n 3, 1) := by decide +kernel
theorem dX5_start_171 : decode cX5_start 171 = .ok (.iadd, 1) := by decide +kernel
theorem dX5_start_172 : decode cX5_start 172 = .ok (.aload_n 0, 1) := by decide +kernel
theorem dX5_start_173 : decode cX5_start 173 = .ok (.getfield 45, 3) := by decide +kernel
theorem dX5_start_176 : decode cX5_start 176 = .ok (.irem, 1) := by decide +kernel
theorem dX5_start_177 : decode cX5_start 177 = .ok (.istore 4, 2) := by decide +kernel
theorem dX5_start_179 : decode cX5_start 179 = .ok (.iload_n 3, 1) := by decide +kernel
theorem dX5_start_180 : decode cX5_start 180 = .ok (.aload_n 0, 1) := by decide +kernel
theorem dX5_start_181 : decode cX5_start 181 = .ok (.getfield 45, 3) := by decide +kernel
theorem dX5_start_184 : decode cX5_start 184 = .ok (.if_icmp .ge 61, 3) := by decide +kernel
theorem dX5_start_187 : decode cX5_start 187 = .ok (.aload_n 0, 1) := by decide +kernel
theorem dX5_start_188 : decode cX5_start 188 = .ok (.iload 4, 2) := by decide +kernel
theorem dX5_start_190 : decode cX5_start 190 = .ok (.invokevirtual 149, 3) := by decide +kernel
theorem dX5_start_193 : decode cX5_start 193 = .ok (.ifCond .eq 52, 3) := by decide +kernel
theorem dX5_start_196 : decode cX5_start 196 = .ok (.aload_n 0, 1) := by decide +kernel
theorem dX5_start_197 : decode cX5_start 197 = .ok (.iload 4, 2) := by decide +kernel
theorem dX5_start_199 : decode cX5_start 199 = .ok (.invokevirtual 152, 3) := by decide +kernel
theorem dX5_start_202 : decode cX5_start 202 = .ok (.aload_n 0, 1) := by decide +kernel
theorem dX5_start_203 : decode cX5_start 203 = .ok (.iload_n 1, 1) := by decide +kernel
theorem dX5_start_204 : decode cX5_start 204 = .ok (.invokevirtual 152, 3) := by decide +kernel
theorem dX5_start_207 : decode cX5_start 207 = .ok (.iload_n 3, 1) := by decide +kernel
theorem dX5_start_208 : decode cX5_start 208 = .ok (.iadd, 1) := by decide +kernel
theorem dX5_start_209 : decode cX5_start 209 = .ok (.if_icmp .ne 36, 3) := by decide +kernel
theorem dX5_start_212 : decode cX5_start 212 = .ok (.aload_n 0, 1) := by decide +kernel

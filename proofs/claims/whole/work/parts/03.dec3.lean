theorem dX12_stores_135 : decode cX12_stores 135 = .ok (.goto 18, 3) := by decide +kernel
theorem dX12_stores_138 : decode cX12_stores 138 = .ok (.aload_n 0, 1) := by decide +kernel
theorem dX12_stores_139 : decode cX12_stores 139 = .ok (.aload_n 0, 1) := by decide +kernel
theorem dX12_stores_140 : decode cX12_stores 140 = .ok (.getfield 172, 3) := by decide +kernel
theorem dX12_stores_143 : decode cX12_stores 143 = .ok (.aload_n 0, 1) := by decide +kernel
theorem dX12_stores_144 : decode cX12_stores 144 = .ok (.getfield 335, 3) := by decide +kernel
theorem dX12_stores_147 : decode cX12_stores 147 = .ok (.iconst 3, 1) := by decide +kernel
theorem dX12_stores_148 : decode cX12_stores 148 = .ok (.isub, 1) := by decide +kernel
theorem dX12_stores_149 : decode cX12_stores 149 = .ok (.iaload, 1) := by decide +kernel
theorem dX12_stores_150 : decode cX12_stores 150 = .ok (.invokevirtual 296, 3) := by decide +kernel
theorem dX12_stores_153 : decode cX12_stores 153 = .ok (.ireturn, 1) := by decide +kernel
theorem dX12_stores_154 : decode cX12_stores 154 = .ok (.aload_n 0, 1) := by decide +kernel
theorem dX12_stores_155 : decode cX12_stores 155 = .ok (.dup, 1) := by decide +kernel
theorem dX12_stores_156 : decode cX12_stores 156 = .ok (.getfield 335, 3) := by decide +kernel
theorem dX12_stores_159 : decode cX12_stores 159 = .ok (.iconst 2, 1) := by decide +kernel
theorem dX12_stores_160 : decode cX12_stores 160 = .ok (.isub, 1) := by decide +kernel
theorem dX12_stores_161 : decode cX12_stores 161 = .ok (.putfield 335, 3) := by decide +kernel
theorem dX12_stores_164 : decode cX12_stores 164 = .ok (.iconst 0, 1) := by decide +kernel
theorem dX12_stores_165 : decode cX12_stores 165 = .ok (.ireturn, 1) := by decide +kernel
theorem dX12_reckons_0 : decode cX12_reckons 0 = .ok (.aload_n 0, 1) := by decide +kernel
theorem dX12_reckons_1 : decode cX12_reckons 1 = .ok (.getfield 169, 3) := by decide +kernel
theorem dX12_reckons_4 : decode cX12_reckons 4 = .ok (.aload_n 0, 1) := by decide +kernel
theorem dX12_reckons_5 : decode cX12_reckons 5 = .ok (.getfield 293, 3) := by decide +kernel
theorem dX12_reckons_8 : decode cX12_reckons 8 = .ok (.iconst 1, 1) := by decide +kernel
theorem dX12_reckons_9 : decode cX12_reckons 9 = .ok (.isub, 1) := by decide +kernel
theorem dX12_reckons_10 : decode cX12_reckons 10 = .ok (.iaload, 1) := by decide +kernel
theorem dX12_reckons_11 : decode cX12_reckons 11 = .ok (.istore_n 2, 1) := by decide +kernel
theorem dX12_reckons_12 : decode cX12_reckons 12 = .ok (.iload_n 1, 1) := by decide +kernel
theorem dX12_reckons_13 : decode cX12_reckons 13 = .ok (.bipush 28, 2) := by decide +kernel
theorem dX12_reckons_15 : decode cX12_reckons 15 = .ok (.if_icmp .eq 9, 3) := by decide +kernel
theorem dX12_reckons_18 : decode cX12_reckons 18 = .ok (.iload_n 1, 1) := by decide +kernel
theorem dX12_reckons_19 : decode cX12_reckons 19 = .ok (.bipush 29, 2) := by decide +kernel
theorem dX12_reckons_21 : decode cX12_reckons 21 = .ok (.if_icmp .ne 32, 3) := by decide +kernel
theorem dX12_reckons_24 : decode cX12_reckons 24 = .ok (.aload_n 0, 1) := by decide +kernel
theorem dX12_reckons_25 : decode cX12_reckons 25 = .ok (.getfield 169, 3) := by decide +kernel
theorem dX12_reckons_28 : decode cX12_reckons 28 = .ok (.aload_n 0, 1) := by decide +kernel
theorem dX12_reckons_29 : decode cX12_reckons 29 = .ok (.getfield 293, 3) := by decide +kernel
theorem dX12_reckons_32 : decode cX12_reckons 32 = .ok (.iconst 1, 1) := by decide +kernel
theorem dX12_reckons_33 : decode cX12_reckons 33 = .ok (.isub, 1) := by decide +kernel
theorem dX12_reckons_34 : decode cX12_reckons 34 = .ok (.iload_n 1, 1) := by decide +kernel
theorem dX12_reckons_35 : decode cX12_reckons 35 = .ok (.bipush 28, 2) := by decide +kernel
theorem dX12_reckons_37 : decode cX12_reckons 37 = .ok (.if_icmp .eq 7, 3) := by decide +kernel
theorem dX12_reckons_40 : decode cX12_reckons 40 = .ok (.iload_n 2, 1) := by decide +kernel
theorem dX12_reckons_41 : decode cX12_reckons 41 = .ok (.ifCond .ge 8, 3) := by decide +kernel
theorem dX12_reckons_44 : decode cX12_reckons 44 = .ok (.iload_n 2, 1) := by decide +kernel
theorem dX12_reckons_45 : decode cX12_reckons 45 = .ok (.ineg, 1) := by decide +kernel
theorem dX12_reckons_46 : decode cX12_reckons 46 = .ok (.goto 4, 3) := by decide +kernel
theorem dX12_reckons_49 : decode cX12_reckons 49 = .ok (.iload_n 2, 1) := by decide +kernel
theorem dX12_reckons_50 : decode cX12_reckons 50 = .ok (.iastore, 1) := by decide +kernel
theorem dX12_reckons_51 : decode cX12_reckons 51 = .ok (.iconst 0, 1) := by decide +kernel
theorem dX12_reckons_52 : decode cX12_reckons 52 = .ok (.ireturn, 1) := by decide +kernel
theorem dX12_reckons_53 : decode cX12_reckons 53 = .ok (.iload_n 1, 1) := by decide +kernel
theorem dX12_reckons_54 : decode cX12_reckons 54 = .ok (.bipush 35, 2) := by decide +kernel
theorem dX12_reckons_56 : decode cX12_reckons 56 = .ok (.if_icmp .ne 19, 3) := by decide +kernel
theorem dX12_reckons_59 : decode cX12_reckons 59 = .ok (.aload_n 0, 1) := by decide +kernel
theorem dX12_reckons_60 : decode cX12_reckons 60 = .ok (.getfield 169, 3) := by decide +kernel
theorem dX12_reckons_63 : decode cX12_reckons 63 = .ok (.aload_n 0, 1) := by decide +kernel
theorem dX12_reckons_64 : decode cX12_reckons 64 = .ok (.getfield 293, 3) := by decide +kernel
theorem dX12_reckons_67 : decode cX12_reckons 67 = .ok (.iconst 1, 1) := by decide +kernel
theorem dX12_reckons_68 : decode cX12_reckons 68 = .ok (.isub, 1) := by decide +kernel
theorem dX12_reckons_69 : decode cX12_reckons 69 = .ok (.iconst (-1), 1) := by decide +kernel
theorem dX12_reckons_70 : decode cX12_reckons 70 = .ok (.iload_n 2, 1) := by decide +kernel
theorem dX12_reckons_71 : decode cX12_reckons 71 = .ok (.isub, 1) := by decide +kernel
theorem dX12_reckons_72 : decode cX12_reckons 72 = .ok (.iastore, 1) := by decide +kernel
theorem dX12_reckons_73 : decode cX12_reckons 73 = .ok (.iconst 0, 1) := by decide +kernel
theorem dX12_reckons_74 : decode cX12_reckons 74 = .ok (.ireturn, 1) := by decide +kernel
theorem dX12_reckons_75 : decode cX12_reckons 75 = .ok (.aload_n 0, 1) := by decide +kernel
theorem dX12_reckons_76 : decode cX12_reckons 76 = .ok (.getfield 169, 3) := by decide +kernel
theorem dX12_reckons_79 : decode cX12_reckons 79 = .ok (.aload_n 0, 1) := by decide +kernel
theorem dX12_reckons_80 : decode cX12_reckons 80 = .ok (.getfield 293, 3) := by decide +kernel
theorem dX12_reckons_83 : decode cX12_reckons 83 = .ok (.iconst 2, 1) := by decide +kernel
theorem dX12_reckons_84 : decode cX12_reckons 84 = .ok (.isub, 1) := by decide +kernel
theorem dX12_reckons_85 : decode cX12_reckons 85 = .ok (.iaload, 1) := by decide +kernel
theorem dX12_reckons_86 : decode cX12_reckons 86 = .ok (.istore_n 3, 1) := by decide +kernel
theorem dX12_reckons_87 : decode cX12_reckons 87 = .ok (.iload_n 1, 1) := by decide +kernel
theorem dX12_reckons_88 : decode cX12_reckons 88 = .ok (.bipush 26, 2) := by decide +kernel
theorem dX12_reckons_90 : decode cX12_reckons 90 = .ok (.if_icmp .eq 9, 3) := by decide +kernel
theorem dX12_reckons_93 : decode cX12_reckons 93 = .ok (.iload_n 1, 1) := by decide +kernel
theorem dX12_reckons_94 : decode cX12_reckons 94 = .ok (.bipush 27, 2) := by decide +kernel
theorem dX12_reckons_96 : decode cX12_reckons 96 = .ok (.if_icmp .ne 10, 3) := by decide +kernel
theorem dX12_reckons_99 : decode cX12_reckons 99 = .ok (.iload_n 2, 1) := by decide +kernel
theorem dX12_reckons_100 : decode cX12_reckons 100 = .ok (.ifCond .ne 6, 3) := by decide +kernel
theorem dX12_reckons_103 : decode cX12_reckons 103 = .ok (.bipush (-10), 2) := by decide +kernel
theorem dX12_reckons_105 : decode cX12_reckons 105 = .ok (.ireturn, 1) := by decide +kernel
theorem dX12_reckons_106 : decode cX12_reckons 106 = .ok (.aload_n 0, 1) := by decide +kernel
theorem dX12_reckons_107 : decode cX12_reckons 107 = .ok (.dup, 1) := by decide +kernel
theorem dX12_reckons_108 : decode cX12_reckons 108 = .ok (.getfield 293, 3) := by decide +kernel
theorem dX12_reckons_111 : decode cX12_reckons 111 = .ok (.iconst 1, 1) := by decide +kernel
theorem dX12_reckons_112 : decode cX12_reckons 112 = .ok (.isub, 1) := by decide +kernel
theorem dX12_reckons_113 : decode cX12_reckons 113 = .ok (.putfield 293, 3) := by decide +kernel
theorem dX12_reckons_116 : decode cX12_reckons 116 = .ok (.iconst 0, 1) := by decide +kernel
theorem dX12_reckons_117 : decode cX12_reckons 117 = .ok (.istore 4, 2) := by decide +kernel
theorem dX12_reckons_119 : decode cX12_reckons 119 = .ok (.iload_n 1, 1) := by decide +kernel
theorem dX12_reckons_120 : decode cX12_reckons 120 = .ok (.tableswitch 146 23 33 #[60, 68, 76, 84, 92, 146, 146, 100, 115, 130, 138], 60) := by decide +kernel
theorem dX12_reckons_180 : decode cX12_reckons 180 = .ok (.iload_n 3, 1) := by decide +kernel
theorem dX12_reckons_181 : decode cX12_reckons 181 = .ok (.iload_n 2, 1) := by decide +kernel
theorem dX12_reckons_182 : decode cX12_reckons 182 = .ok (.iadd, 1) := by decide +kernel
theorem dX12_reckons_183 : decode cX12_reckons 183 = .ok (.istore 4, 2) := by decide +kernel
theorem dX12_reckons_185 : decode cX12_reckons 185 = .ok (.goto 86, 3) := by decide +kernel
theorem dX12_reckons_188 : decode cX12_reckons 188 = .ok (.iload_n 3, 1) := by decide +kernel
theorem dX12_reckons_189 : decode cX12_reckons 189 = .ok (.iload_n 2, 1) := by decide +kernel
theorem dX12_reckons_190 : decode cX12_reckons 190 = .ok (.isub, 1) := by decide +kernel
theorem dX12_reckons_191 : decode cX12_reckons 191 = .ok (.istore 4, 2) := by decide +kernel
theorem dX12_reckons_193 : decode cX12_reckons 193 = .ok (.goto 78, 3) := by decide +kernel
theorem dX12_reckons_196 : decode cX12_reckons 196 = .ok (.iload_n 3, 1) := by decide +kernel
theorem dX12_reckons_197 : decode cX12_reckons 197 = .ok (.iload_n 2, 1) := by decide +kernel
theorem dX12_reckons_198 : decode cX12_reckons 198 = .ok (.imul, 1) := by decide +kernel
theorem dX12_reckons_199 : decode cX12_reckons 199 = .ok (.istore 4, 2) := by decide +kernel
theorem dX12_reckons_201 : decode cX12_reckons 201 = .ok (.goto 70, 3) := by decide +kernel
theorem dX12_reckons_204 : decode cX12_reckons 204 = .ok (.iload_n 3, 1) := by decide +kernel
theorem dX12_reckons_205 : decode cX12_reckons 205 = .ok (.iload_n 2, 1) := by decide +kernel
theorem dX12_reckons_206 : decode cX12_reckons 206 = .ok (.idiv, 1) := by decide +kernel
theorem dX12_reckons_207 : decode cX12_reckons 207 = .ok (.istore 4, 2) := by decide +kernel
theorem dX12_reckons_209 : decode cX12_reckons 209 = .ok (.goto 62, 3) := by decide +kernel
theorem dX12_reckons_212 : decode cX12_reckons 212 = .ok (.iload_n 3, 1) := by decide +kernel
theorem dX12_reckons_213 : decode cX12_reckons 213 = .ok (.iload_n 2, 1) := by decide +kernel
theorem dX12_reckons_214 : decode cX12_reckons 214 = .ok (.irem, 1) := by decide +kernel
theorem dX12_reckons_215 : decode cX12_reckons 215 = .ok (.istore 4, 2) := by decide +kernel
theorem dX12_reckons_217 : decode cX12_reckons 217 = .ok (.goto 54, 3) := by decide +kernel
theorem dX12_reckons_220 : decode cX12_reckons 220 = .ok (.iload_n 3, 1) := by decide +kernel
theorem dX12_reckons_221 : decode cX12_reckons 221 = .ok (.iload_n 2, 1) := by decide +kernel
theorem dX12_reckons_222 : decode cX12_reckons 222 = .ok (.if_icmp .ge 7, 3) := by decide +kernel
theorem dX12_reckons_225 : decode cX12_reckons 225 = .ok (.iload_n 3, 1) := by decide +kernel
theorem dX12_reckons_226 : decode cX12_reckons 226 = .ok (.goto 4, 3) := by decide +kernel
theorem dX12_reckons_229 : decode cX12_reckons 229 = .ok (.iload_n 2, 1) := by decide +kernel
theorem dX12_reckons_230 : decode cX12_reckons 230 = .ok (.istore 4, 2) := by decide +kernel
theorem dX12_reckons_232 : decode cX12_reckons 232 = .ok (.goto 39, 3) := by decide +kernel
theorem dX12_reckons_235 : decode cX12_reckons 235 = .ok (.iload_n 3, 1) := by decide +kernel
theorem dX12_reckons_236 : decode cX12_reckons 236 = .ok (.iload_n 2, 1) := by decide +kernel
theorem dX12_reckons_237 : decode cX12_reckons 237 = .ok (.if_icmp .le 7, 3) := by decide +kernel
theorem dX12_reckons_240 : decode cX12_reckons 240 = .ok (.iload_n 3, 1) := by decide +kernel
theorem dX12_reckons_241 : decode cX12_reckons 241 = .ok (.goto 4, 3) := by decide +kernel
theorem dX12_reckons_244 : decode cX12_reckons 244 = .ok (.iload_n 2, 1) := by decide +kernel
theorem dX12_reckons_245 : decode cX12_reckons 245 = .ok (.istore 4, 2) := by decide +kernel
theorem dX12_reckons_247 : decode cX12_reckons 247 = .ok (.goto 24, 3) := by decide +kernel
theorem dX12_reckons_250 : decode cX12_reckons 250 = .ok (.iload_n 3, 1) := by decide +kernel
theorem dX12_reckons_251 : decode cX12_reckons 251 = .ok (.iload_n 2, 1) := by decide +kernel
theorem dX12_reckons_252 : decode cX12_reckons 252 = .ok (.iand, 1) := by decide +kernel
theorem dX12_reckons_253 : decode cX12_reckons 253 = .ok (.istore 4, 2) := by decide +kernel
theorem dX12_reckons_255 : decode cX12_reckons 255 = .ok (.goto 16, 3) := by decide +kernel
theorem dX12_reckons_258 : decode cX12_reckons 258 = .ok (.iload_n 3, 1) := by decide +kernel
theorem dX12_reckons_259 : decode cX12_reckons 259 = .ok (.iload_n 2, 1) := by decide +kernel
theorem dX12_reckons_260 : decode cX12_reckons 260 = .ok (.ior, 1) := by decide +kernel
theorem dX12_reckons_261 : decode cX12_reckons 261 = .ok (.istore 4, 2) := by decide +kernel
theorem dX12_reckons_263 : decode cX12_reckons 263 = .ok (.goto 8, 3) := by decide +kernel
theorem dX12_reckons_266 : decode cX12_reckons 266 = .ok (.iload_n 3, 1) := by decide +kernel
theorem dX12_reckons_267 : decode cX12_reckons 267 = .ok (.iload_n 2, 1) := by decide +kernel
theorem dX12_reckons_268 : decode cX12_reckons 268 = .ok (.ixor, 1) := by decide +kernel
theorem dX12_reckons_269 : decode cX12_reckons 269 = .ok (.istore 4, 2) := by decide +kernel
theorem dX12_reckons_271 : decode cX12_reckons 271 = .ok (.aload_n 0, 1) := by decide +kernel
theorem dX12_reckons_272 : decode cX12_reckons 272 = .ok (.getfield 169, 3) := by decide +kernel
theorem dX12_reckons_275 : decode cX12_reckons 275 = .ok (.aload_n 0, 1) := by decide +kernel
theorem dX12_reckons_276 : decode cX12_reckons 276 = .ok (.getfield 293, 3) := by decide +kernel
theorem dX12_reckons_279 : decode cX12_reckons 279 = .ok (.iconst 1, 1) := by decide +kernel
theorem dX12_reckons_280 : decode cX12_reckons 280 = .ok (.isub, 1) := by decide +kernel
theorem dX12_reckons_281 : decode cX12_reckons 281 = .ok (.iload 4, 2) := by decide +kernel
theorem dX12_reckons_283 : decode cX12_reckons 283 = .ok (.iastore, 1) := by decide +kernel
theorem dX12_reckons_284 : decode cX12_reckons 284 = .ok (.iconst 0, 1) := by decide +kernel
theorem dX12_reckons_285 : decode cX12_reckons 285 = .ok (.ireturn, 1) := by decide +kernel
theorem dX12_compares_0 : decode cX12_compares 0 = .ok (.aload_n 0, 1) := by decide +kernel
theorem dX12_compares_1 : decode cX12_compares 1 = .ok (.invokevirtual 390, 3) := by decide +kernel
theorem dX12_compares_4 : decode cX12_compares 4 = .ok (.istore_n 2, 1) := by decide +kernel
theorem dX12_compares_5 : decode cX12_compares 5 = .ok (.iload_n 1, 1) := by decide +kernel
theorem dX12_compares_6 : decode cX12_compares 6 = .ok (.tableswitch 127 36 40 #[34, 52, 70, 99, 113], 34) := by decide +kernel
theorem dX12_compares_40 : decode cX12_compares 40 = .ok (.aload_n 0, 1) := by decide +kernel
theorem dX12_compares_41 : decode cX12_compares 41 = .ok (.aload_n 0, 1) := by decide +kernel
theorem dX12_compares_42 : decode cX12_compares 42 = .ok (.invokevirtual 390, 3) := by decide +kernel
theorem dX12_compares_45 : decode cX12_compares 45 = .ok (.iload_n 2, 1) := by decide +kernel
theorem dX12_compares_46 : decode cX12_compares 46 = .ok (.if_icmp .ne 7, 3) := by decide +kernel
theorem dX12_compares_49 : decode cX12_compares 49 = .ok (.iconst 1, 1) := by decide +kernel
theorem dX12_compares_50 : decode cX12_compares 50 = .ok (.goto 4, 3) := by decide +kernel
theorem dX12_compares_53 : decode cX12_compares 53 = .ok (.iconst 0, 1) := by decide +kernel
theorem dX12_compares_54 : decode cX12_compares 54 = .ok (.invokevirtual 404, 3) := by decide +kernel
theorem dX12_compares_57 : decode cX12_compares 57 = .ok (.ireturn, 1) := by decide +kernel
theorem dX12_compares_58 : decode cX12_compares 58 = .ok (.aload_n 0, 1) := by decide +kernel
theorem dX12_compares_59 : decode cX12_compares 59 = .ok (.aload_n 0, 1) := by decide +kernel
theorem dX12_compares_60 : decode cX12_compares 60 = .ok (.invokevirtual 390, 3) := by decide +kernel
theorem dX12_compares_63 : decode cX12_compares 63 = .ok (.iload_n 2, 1) := by decide +kernel
theorem dX12_compares_64 : decode cX12_compares 64 = .ok (.if_icmp .ge 7, 3) := by decide +kernel
theorem dX12_compares_67 : decode cX12_compares 67 = .ok (.iconst 1, 1) := by decide +kernel
theorem dX12_compares_68 : decode cX12_compares 68 = .ok (.goto 4, 3) := by decide +kernel
theorem dX12_compares_71 : decode cX12_compares 71 = .ok (.iconst 0, 1) := by decide +kernel
theorem dX12_compares_72 : decode cX12_compares 72 = .ok (.invokevirtual 404, 3) := by decide +kernel
theorem dX12_compares_75 : decode cX12_compares 75 = .ok (.ireturn, 1) := by decide +kernel
theorem dX12_compares_76 : decode cX12_compares 76 = .ok (.aload_n 0, 1) := by decide +kernel
theorem dX12_compares_77 : decode cX12_compares 77 = .ok (.aload_n 0, 1) := by decide +kernel
theorem dX12_compares_78 : decode cX12_compares 78 = .ok (.invokevirtual 390, 3) := by decide +kernel
theorem dX12_compares_81 : decode cX12_compares 81 = .ok (.i2l, 1) := by decide +kernel
theorem dX12_compares_82 : decode cX12_compares 82 = .ok (.ldc2_w 408, 3) := by decide +kernel
theorem dX12_compares_85 : decode cX12_compares 85 = .ok (.land, 1) := by decide +kernel
theorem dX12_compares_86 : decode cX12_compares 86 = .ok (.iload_n 2, 1) := by decide +kernel
theorem dX12_compares_87 : decode cX12_compares 87 = .ok (.i2l, 1) := by decide +kernel
theorem dX12_compares_88 : decode cX12_compares 88 = .ok (.ldc2_w 408, 3) := by decide +kernel
theorem dX12_compares_91 : decode cX12_compares 91 = .ok (.land, 1) := by decide +kernel
theorem dX12_compares_92 : decode cX12_compares 92 = .ok (.lcmp, 1) := by decide +kernel
theorem dX12_compares_93 : decode cX12_compares 93 = .ok (.ifCond .ge 7, 3) := by decide +kernel
theorem dX12_compares_96 : decode cX12_compares 96 = .ok (.iconst 1, 1) := by decide +kernel
theorem dX12_compares_97 : decode cX12_compares 97 = .ok (.goto 4, 3) := by decide +kernel
theorem dX12_compares_100 : decode cX12_compares 100 = .ok (.iconst 0, 1) := by decide +kernel
theorem dX12_compares_101 : decode cX12_compares 101 = .ok (.invokevirtual 404, 3) := by decide +kernel
theorem dX12_compares_104 : decode cX12_compares 104 = .ok (.ireturn, 1) := by decide +kernel
theorem dX12_compares_105 : decode cX12_compares 105 = .ok (.aload_n 0, 1) := by decide +kernel
theorem dX12_compares_106 : decode cX12_compares 106 = .ok (.iload_n 2, 1) := by decide +kernel
theorem dX12_compares_107 : decode cX12_compares 107 = .ok (.ifCond .ne 7, 3) := by decide +kernel
theorem dX12_compares_110 : decode cX12_compares 110 = .ok (.iconst 1, 1) := by decide +kernel
theorem dX12_compares_111 : decode cX12_compares 111 = .ok (.goto 4, 3) := by decide +kernel
theorem dX12_compares_114 : decode cX12_compares 114 = .ok (.iconst 0, 1) := by decide +kernel
theorem dX12_compares_115 : decode cX12_compares 115 = .ok (.invokevirtual 404, 3) := by decide +kernel
theorem dX12_compares_118 : decode cX12_compares 118 = .ok (.ireturn, 1) := by decide +kernel
theorem dX12_compares_119 : decode cX12_compares 119 = .ok (.aload_n 0, 1) := by decide +kernel
theorem dX12_compares_120 : decode cX12_compares 120 = .ok (.iload_n 2, 1) := by decide +kernel
theorem dX12_compares_121 : decode cX12_compares 121 = .ok (.ifCond .ge 7, 3) := by decide +kernel
theorem dX12_compares_124 : decode cX12_compares 124 = .ok (.iconst 1, 1) := by decide +kernel
theorem dX12_compares_125 : decode cX12_compares 125 = .ok (.goto 4, 3) := by decide +kernel
theorem dX12_compares_128 : decode cX12_compares 128 = .ok (.iconst 0, 1) := by decide +kernel
theorem dX12_compares_129 : decode cX12_compares 129 = .ok (.invokevirtual 404, 3) := by decide +kernel
theorem dX12_compares_132 : decode cX12_compares 132 = .ok (.ireturn, 1) := by decide +kernel
theorem dX12_compares_133 : decode cX12_compares 133 = .ok (.aload_n 0, 1) := by decide +kernel
theorem dX12_compares_134 : decode cX12_compares 134 = .ok (.iload_n 1, 1) := by decide +kernel
theorem dX12_compares_135 : decode cX12_compares 135 = .ok (.bipush 41, 2) := by decide +kernel
theorem dX12_compares_137 : decode cX12_compares 137 = .ok (.if_icmp .ne 9, 3) := by decide +kernel
theorem dX12_compares_140 : decode cX12_compares 140 = .ok (.iload_n 2, 1) := by decide +kernel
theorem dX12_compares_141 : decode cX12_compares 141 = .ok (.iconst 1, 1) := by decide +kernel
theorem dX12_compares_142 : decode cX12_compares 142 = .ok (.iadd, 1) := by decide +kernel
theorem dX12_compares_143 : decode cX12_compares 143 = .ok (.goto 18, 3) := by decide +kernel
theorem dX12_compares_146 : decode cX12_compares 146 = .ok (.iload_n 1, 1) := by decide +kernel
theorem dX12_compares_147 : decode cX12_compares 147 = .ok (.bipush 42, 2) := by decide +kernel
theorem dX12_compares_149 : decode cX12_compares 149 = .ok (.if_icmp .ne 9, 3) := by decide +kernel
theorem dX12_compares_152 : decode cX12_compares 152 = .ok (.iload_n 2, 1) := by decide +kernel
theorem dX12_compares_153 : decode cX12_compares 153 = .ok (.iconst 1, 1) := by decide +kernel
theorem dX12_compares_154 : decode cX12_compares 154 = .ok (.isub, 1) := by decide +kernel
theorem dX12_compares_155 : decode cX12_compares 155 = .ok (.goto 6, 3) := by decide +kernel
theorem dX12_compares_158 : decode cX12_compares 158 = .ok (.iload_n 2, 1) := by decide +kernel
theorem dX12_compares_159 : decode cX12_compares 159 = .ok (.iload_n 2, 1) := by decide +kernel
theorem dX12_compares_160 : decode cX12_compares 160 = .ok (.iadd, 1) := by decide +kernel
theorem dX12_compares_161 : decode cX12_compares 161 = .ok (.invokevirtual 296, 3) := by decide +kernel
theorem dX12_compares_164 : decode cX12_compares 164 = .ok (.ireturn, 1) := by decide +kernel
theorem dX12_keeps_0 : decode cX12_keeps 0 = .ok (.aload_n 0, 1) := by decide +kernel
theorem dX12_keeps_1 : decode cX12_keeps 1 = .ok (.getfield 293, 3) := by decide +kernel
theorem dX12_keeps_4 : decode cX12_keeps 4 = .ok (.ifCond .le 17, 3) := by decide +kernel
theorem dX12_keeps_7 : decode cX12_keeps 7 = .ok (.aload_n 0, 1) := by decide +kernel
theorem dX12_keeps_8 : decode cX12_keeps 8 = .ok (.getfield 169, 3) := by decide +kernel
theorem dX12_keeps_11 : decode cX12_keeps 11 = .ok (.aload_n 0, 1) := by decide +kernel
theorem dX12_keeps_12 : decode cX12_keeps 12 = .ok (.getfield 293, 3) := by decide +kernel
theorem dX12_keeps_15 : decode cX12_keeps 15 = .ok (.iconst 1, 1) := by decide +kernel
theorem dX12_keeps_16 : decode cX12_keeps 16 = .ok (.isub, 1) := by decide +kernel
theorem dX12_keeps_17 : decode cX12_keeps 17 = .ok (.iaload, 1) := by decide +kernel
theorem dX12_keeps_18 : decode cX12_keeps 18 = .ok (.goto 4, 3) := by decide +kernel
theorem dX12_keeps_21 : decode cX12_keeps 21 = .ok (.iconst 0, 1) := by decide +kernel
theorem dX12_keeps_22 : decode cX12_keeps 22 = .ok (.istore_n 2, 1) := by decide +kernel
theorem dX12_keeps_23 : decode cX12_keeps 23 = .ok (.iload_n 1, 1) := by decide +kernel
theorem dX12_keeps_24 : decode cX12_keeps 24 = .ok (.bipush 47, 2) := by decide +kernel
theorem dX12_keeps_26 : decode cX12_keeps 26 = .ok (.if_icmp .ge 17, 3) := by decide +kernel
theorem dX12_keeps_29 : decode cX12_keeps 29 = .ok (.iload_n 2, 1) := by decide +kernel
theorem dX12_keeps_30 : decode cX12_keeps 30 = .ok (.ifCond .lt 10, 3) := by decide +kernel
theorem dX12_keeps_33 : decode cX12_keeps 33 = .ok (.iload_n 2, 1) := by decide +kernel
theorem dX12_keeps_34 : decode cX12_keeps 34 = .ok (.sipush 400, 3) := by decide +kernel
theorem dX12_keeps_37 : decode cX12_keeps 37 = .ok (.if_icmp .lt 6, 3) := by decide +kernel
theorem dX12_keeps_40 : decode cX12_keeps 40 = .ok (.bipush (-9), 2) := by decide +kernel
theorem dX12_keeps_42 : decode cX12_keeps 42 = .ok (.ireturn, 1) := by decide +kernel
theorem dX12_keeps_43 : decode cX12_keeps 43 = .ok (.iload_n 1, 1) := by decide +kernel
theorem dX12_keeps_44 : decode cX12_keeps 44 = .ok (.tableswitch 238 44 51 #[48, 67, 67, 123, 147, 170, 209, 225], 48) := by decide +kernel
theorem dX12_keeps_92 : decode cX12_keeps 92 = .ok (.aload_n 0, 1) := by decide +kernel
theorem dX12_keeps_93 : decode cX12_keeps 93 = .ok (.getfield 169, 3) := by decide +kernel
theorem dX12_keeps_96 : decode cX12_keeps 96 = .ok (.aload_n 0, 1) := by decide +kernel
theorem dX12_keeps_97 : decode cX12_keeps 97 = .ok (.getfield 293, 3) := by decide +kernel
theorem dX12_keeps_100 : decode cX12_keeps 100 = .ok (.iconst 1, 1) := by decide +kernel
theorem dX12_keeps_101 : decode cX12_keeps 101 = .ok (.isub, 1) := by decide +kernel
theorem dX12_keeps_102 : decode cX12_keeps 102 = .ok (.aload_n 0, 1) := by decide +kernel
theorem dX12_keeps_103 : decode cX12_keeps 103 = .ok (.getfield 184, 3) := by decide +kernel
theorem dX12_keeps_106 : decode cX12_keeps 106 = .ok (.iload_n 2, 1) := by decide +kernel
theorem dX12_keeps_107 : decode cX12_keeps 107 = .ok (.iaload, 1) := by decide +kernel
theorem dX12_keeps_108 : decode cX12_keeps 108 = .ok (.iastore, 1) := by decide +kernel
theorem dX12_keeps_109 : decode cX12_keeps 109 = .ok (.iconst 0, 1) := by decide +kernel
theorem dX12_keeps_110 : decode cX12_keeps 110 = .ok (.ireturn, 1) := by decide +kernel
theorem dX12_keeps_111 : decode cX12_keeps 111 = .ok (.aload_n 0, 1) := by decide +kernel
theorem dX12_keeps_112 : decode cX12_keeps 112 = .ok (.getfield 184, 3) := by decide +kernel
theorem dX12_keeps_115 : decode cX12_keeps 115 = .ok (.iload_n 2, 1) := by decide +kernel
theorem dX12_keeps_116 : decode cX12_keeps 116 = .ok (.iload_n 1, 1) := by decide +kernel
theorem dX12_keeps_117 : decode cX12_keeps 117 = .ok (.bipush 45, 2) := by decide +kernel
theorem dX12_keeps_119 : decode cX12_keeps 119 = .ok (.if_icmp .ne 17, 3) := by decide +kernel
theorem dX12_keeps_122 : decode cX12_keeps 122 = .ok (.aload_n 0, 1) := by decide +kernel
theorem dX12_keeps_123 : decode cX12_keeps 123 = .ok (.getfield 169, 3) := by decide +kernel
theorem dX12_keeps_126 : decode cX12_keeps 126 = .ok (.aload_n 0, 1) := by decide +kernel
theorem dX12_keeps_127 : decode cX12_keeps 127 = .ok (.getfield 293, 3) := by decide +kernel
theorem dX12_keeps_130 : decode cX12_keeps 130 = .ok (.iconst 2, 1) := by decide +kernel
theorem dX12_keeps_131 : decode cX12_keeps 131 = .ok (.isub, 1) := by decide +kernel
theorem dX12_keeps_132 : decode cX12_keeps 132 = .ok (.iaload, 1) := by decide +kernel
theorem dX12_keeps_133 : decode cX12_keeps 133 = .ok (.goto 21, 3) := by decide +kernel
theorem dX12_keeps_136 : decode cX12_keeps 136 = .ok (.aload_n 0, 1) := by decide +kernel
theorem dX12_keeps_137 : decode cX12_keeps 137 = .ok (.getfield 184, 3) := by decide +kernel
theorem dX12_keeps_140 : decode cX12_keeps 140 = .ok (.iload_n 2, 1) := by decide +kernel
theorem dX12_keeps_141 : decode cX12_keeps 141 = .ok (.iaload, 1) := by decide +kernel
theorem dX12_keeps_142 : decode cX12_keeps 142 = .ok (.aload_n 0, 1) := by decide +kernel
theorem dX12_keeps_143 : decode cX12_keeps 143 = .ok (.getfield 169, 3) := by decide +kernel
theorem dX12_keeps_146 : decode cX12_keeps 146 = .ok (.aload_n 0, 1) := by decide +kernel
theorem dX12_keeps_147 : decode cX12_keeps 147 = .ok (.getfield 293, 3) := by decide +kernel
theorem dX12_keeps_150 : decode cX12_keeps 150 = .ok (.iconst 2, 1) := by decide +kernel
theorem dX12_keeps_151 : decode cX12_keeps 151 = .ok (.isub, 1) := by decide +kernel
theorem dX12_keeps_152 : decode cX12_keeps 152 = .ok (.iaload, 1) := by decide +kernel
theorem dX12_keeps_153 : decode cX12_keeps 153 = .ok (.iadd, 1) := by decide +kernel
theorem dX12_keeps_154 : decode cX12_keeps 154 = .ok (.iastore, 1) := by decide +kernel
theorem dX12_keeps_155 : decode cX12_keeps 155 = .ok (.aload_n 0, 1) := by decide +kernel
theorem dX12_keeps_156 : decode cX12_keeps 156 = .ok (.dup, 1) := by decide +kernel
theorem dX12_keeps_157 : decode cX12_keeps 157 = .ok (.getfield 293, 3) := by decide +kernel
theorem dX12_keeps_160 : decode cX12_keeps 160 = .ok (.iconst 2, 1) := by decide +kernel
theorem dX12_keeps_161 : decode cX12_keeps 161 = .ok (.isub, 1) := by decide +kernel
theorem dX12_keeps_162 : decode cX12_keeps 162 = .ok (.putfield 293, 3) := by decide +kernel
theorem dX12_keeps_165 : decode cX12_keeps 165 = .ok (.iconst 0, 1) := by decide +kernel
theorem dX12_keeps_166 : decode cX12_keeps 166 = .ok (.ireturn, 1) := by decide +kernel
theorem dX12_keeps_167 : decode cX12_keeps 167 = .ok (.aload_n 0, 1) := by decide +kernel
theorem dX12_keeps_168 : decode cX12_keeps 168 = .ok (.getfield 276, 3) := by decide +kernel
theorem dX12_keeps_171 : decode cX12_keeps 171 = .ok (.sipush 400, 3) := by decide +kernel
theorem dX12_keeps_174 : decode cX12_keeps 174 = .ok (.if_icmp .ne 8, 3) := by decide +kernel
theorem dX12_keeps_177 : decode cX12_keeps 177 = .ok (.bipush (-8), 2) := by decide +kernel
theorem dX12_keeps_179 : decode cX12_keeps 179 = .ok (.goto 11, 3) := by decide +kernel
theorem dX12_keeps_182 : decode cX12_keeps 182 = .ok (.aload_n 0, 1) := by decide +kernel
theorem dX12_keeps_183 : decode cX12_keeps 183 = .ok (.aload_n 0, 1) := by decide +kernel
theorem dX12_keeps_184 : decode cX12_keeps 184 = .ok (.invokevirtual 390, 3) := by decide +kernel
theorem dX12_keeps_187 : decode cX12_keeps 187 = .ok (.invokevirtual 279, 3) := by decide +kernel
theorem dX12_keeps_190 : decode cX12_keeps 190 = .ok (.ireturn, 1) := by decide +kernel
theorem dX12_keeps_191 : decode cX12_keeps 191 = .ok (.aload_n 0, 1) := by decide +kernel
theorem dX12_keeps_192 : decode cX12_keeps 192 = .ok (.getfield 293, 3) := by decide +kernel
theorem dX12_keeps_195 : decode cX12_keeps 195 = .ok (.bipush 30, 2) := by decide +kernel
theorem dX12_keeps_197 : decode cX12_keeps 197 = .ok (.if_icmp .ne 8, 3) := by decide +kernel
theorem dX12_keeps_200 : decode cX12_keeps 200 = .ok (.bipush (-3), 2) := by decide +kernel
theorem dX12_keeps_202 : decode cX12_keeps 202 = .ok (.goto 11, 3) := by decide +kernel
theorem dX12_keeps_205 : decode cX12_keeps 205 = .ok (.aload_n 0, 1) := by decide +kernel
theorem dX12_keeps_206 : decode cX12_keeps 206 = .ok (.aload_n 0, 1) := by decide +kernel
theorem dX12_keeps_207 : decode cX12_keeps 207 = .ok (.getfield 276, 3) := by decide +kernel
theorem dX12_keeps_210 : decode cX12_keeps 210 = .ok (.invokevirtual 296, 3) := by decide +kernel
theorem dX12_keeps_213 : decode cX12_keeps 213 = .ok (.ireturn, 1) := by decide +kernel
theorem dX12_keeps_214 : decode cX12_keeps 214 = .ok (.iload_n 2, 1) := by decide +kernel
theorem dX12_keeps_215 : decode cX12_keeps 215 = .ok (.aload_n 0, 1) := by decide +kernel
theorem dX12_keeps_216 : decode cX12_keeps 216 = .ok (.getfield 276, 3) := by decide +kernel
theorem dX12_keeps_219 : decode cX12_keeps 219 = .ok (.ineg, 1) := by decide +kernel
theorem dX12_keeps_220 : decode cX12_keeps 220 = .ok (.if_icmp .lt 15, 3) := by decide +kernel
theorem dX12_keeps_223 : decode cX12_keeps 223 = .ok (.iload_n 2, 1) := by decide +kernel
theorem dX12_keeps_224 : decode cX12_keeps 224 = .ok (.sipush 400, 3) := by decide +kernel
theorem dX12_keeps_227 : decode cX12_keeps 227 = .ok (.aload_n 0, 1) := by decide +kernel
theorem dX12_keeps_228 : decode cX12_keeps 228 = .ok (.getfield 276, 3) := by decide +kernel
theorem dX12_keeps_231 : decode cX12_keeps 231 = .ok (.isub, 1) := by decide +kernel
theorem dX12_keeps_232 : decode cX12_keeps 232 = .ok (.if_icmp .le 6, 3) := by decide +kernel
theorem dX12_keeps_235 : decode cX12_keeps 235 = .ok (.bipush (-8), 2) := by decide +kernel
theorem dX12_keeps_237 : decode cX12_keeps 237 = .ok (.ireturn, 1) := by decide +kernel
theorem dX12_keeps_238 : decode cX12_keeps 238 = .ok (.aload_n 0, 1) := by decide +kernel
theorem dX12_keeps_239 : decode cX12_keeps 239 = .ok (.dup, 1) := by decide +kernel
theorem dX12_keeps_240 : decode cX12_keeps 240 = .ok (.getfield 276, 3) := by decide +kernel
theorem dX12_keeps_243 : decode cX12_keeps 243 = .ok (.aload_n 0, 1) := by decide +kernel
theorem dX12_keeps_244 : decode cX12_keeps 244 = .ok (.invokevirtual 390, 3) := by decide +kernel
theorem dX12_keeps_247 : decode cX12_keeps 247 = .ok (.iadd, 1) := by decide +kernel
theorem dX12_keeps_248 : decode cX12_keeps 248 = .ok (.putfield 276, 3) := by decide +kernel
theorem dX12_keeps_251 : decode cX12_keeps 251 = .ok (.iconst 0, 1) := by decide +kernel
theorem dX12_keeps_252 : decode cX12_keeps 252 = .ok (.ireturn, 1) := by decide +kernel
theorem dX12_keeps_253 : decode cX12_keeps 253 = .ok (.aload_n 0, 1) := by decide +kernel
theorem dX12_keeps_254 : decode cX12_keeps 254 = .ok (.aload_n 0, 1) := by decide +kernel
theorem dX12_keeps_255 : decode cX12_keeps 255 = .ok (.invokevirtual 390, 3) := by decide +kernel
theorem dX12_keeps_258 : decode cX12_keeps 258 = .ok (.invokevirtual 410, 3) := by decide +kernel
theorem dX12_keeps_261 : decode cX12_keeps 261 = .ok (.aload_n 0, 1) := by decide +kernel
theorem dX12_keeps_262 : decode cX12_keeps 262 = .ok (.bipush 32, 2) := by decide +kernel
theorem dX12_keeps_264 : decode cX12_keeps 264 = .ok (.invokevirtual 413, 3) := by decide +kernel
theorem dX12_keeps_267 : decode cX12_keeps 267 = .ok (.iconst 0, 1) := by decide +kernel
theorem dX12_keeps_268 : decode cX12_keeps 268 = .ok (.ireturn, 1) := by decide +kernel
theorem dX12_keeps_269 : decode cX12_keeps 269 = .ok (.aload_n 0, 1) := by decide +kernel
theorem dX12_keeps_270 : decode cX12_keeps 270 = .ok (.aload_n 0, 1) := by decide +kernel
theorem dX12_keeps_271 : decode cX12_keeps 271 = .ok (.invokevirtual 390, 3) := by decide +kernel
theorem dX12_keeps_274 : decode cX12_keeps 274 = .ok (.bipush 127, 2) := by decide +kernel
theorem dX12_keeps_276 : decode cX12_keeps 276 = .ok (.iand, 1) := by decide +kernel
theorem dX12_keeps_277 : decode cX12_keeps 277 = .ok (.invokevirtual 413, 3) := by decide +kernel
theorem dX12_keeps_280 : decode cX12_keeps 280 = .ok (.iconst 0, 1) := by decide +kernel
theorem dX12_keeps_281 : decode cX12_keeps 281 = .ok (.ireturn, 1) := by decide +kernel
theorem dX12_keeps_282 : decode cX12_keeps 282 = .ok (.aload_n 0, 1) := by decide +kernel
theorem dX12_keeps_283 : decode cX12_keeps 283 = .ok (.bipush 10, 2) := by decide +kernel
theorem dX12_keeps_285 : decode cX12_keeps 285 = .ok (.invokevirtual 413, 3) := by decide +kernel
theorem dX12_keeps_288 : decode cX12_keeps 288 = .ok (.iconst 0, 1) := by decide +kernel
theorem dX12_keeps_289 : decode cX12_keeps 289 = .ok (.ireturn, 1) := by decide +kernel
theorem dX12_number_0 : decode cX12_number 0 = .ok (.iload_n 1, 1) := by decide +kernel
theorem dX12_number_1 : decode cX12_number 1 = .ok (.ifCond .ge 9, 3) := by decide +kernel
theorem dX12_number_4 : decode cX12_number 4 = .ok (.iload_n 1, 1) := by decide +kernel
theorem dX12_number_5 : decode cX12_number 5 = .ok (.i2l, 1) := by decide +kernel
theorem dX12_number_6 : decode cX12_number 6 = .ok (.lneg, 1) := by decide +kernel
theorem dX12_number_7 : decode cX12_number 7 = .ok (.goto 5, 3) := by decide +kernel
theorem dX12_number_10 : decode cX12_number 10 = .ok (.iload_n 1, 1) := by decide +kernel
theorem dX12_number_11 : decode cX12_number 11 = .ok (.i2l, 1) := by decide +kernel
theorem dX12_number_12 : decode cX12_number 12 = .ok (.lstore_n 2, 1) := by decide +kernel
theorem dX12_number_13 : decode cX12_number 13 = .ok (.lconst 1, 1) := by decide +kernel
theorem dX12_number_14 : decode cX12_number 14 = .ok (.lstore 4, 2) := by decide +kernel
theorem dX12_number_16 : decode cX12_number 16 = .ok (.iconst 0, 1) := by decide +kernel
theorem dX12_number_17 : decode cX12_number 17 = .ok (.istore 6, 2) := by decide +kernel
theorem dX12_number_19 : decode cX12_number 19 = .ok (.iload 6, 2) := by decide +kernel
theorem dX12_number_21 : decode cX12_number 21 = .ok (.bipush 10, 2) := by decide +kernel
theorem dX12_number_23 : decode cX12_number 23 = .ok (.if_icmp .ge 28, 3) := by decide +kernel
theorem dX12_number_26 : decode cX12_number 26 = .ok (.lload_n 2, 1) := by decide +kernel
theorem dX12_number_27 : decode cX12_number 27 = .ok (.lload 4, 2) := by decide +kernel
theorem dX12_number_29 : decode cX12_number 29 = .ok (.ldiv, 1) := by decide +kernel
theorem dX12_number_30 : decode cX12_number 30 = .ok (.ldc2_w 251, 3) := by decide +kernel
theorem dX12_number_33 : decode cX12_number 33 = .ok (.lcmp, 1) := by decide +kernel
theorem dX12_number_34 : decode cX12_number 34 = .ok (.ifCond .lt 17, 3) := by decide +kernel
theorem dX12_number_37 : decode cX12_number 37 = .ok (.lload 4, 2) := by decide +kernel
theorem dX12_number_39 : decode cX12_number 39 = .ok (.ldc2_w 251, 3) := by decide +kernel
theorem dX12_number_42 : decode cX12_number 42 = .ok (.lmul, 1) := by decide +kernel
theorem dX12_number_43 : decode cX12_number 43 = .ok (.lstore 4, 2) := by decide +kernel
theorem dX12_number_45 : decode cX12_number 45 = .ok (.iinc 6 1, 3) := by decide +kernel
theorem dX12_number_48 : decode cX12_number 48 = .ok (.goto (-29), 3) := by decide +kernel
theorem dX12_number_51 : decode cX12_number 51 = .ok (.iload_n 1, 1) := by decide +kernel
theorem dX12_number_52 : decode cX12_number 52 = .ok (.ifCond .ge 9, 3) := by decide +kernel
theorem dX12_number_55 : decode cX12_number 55 = .ok (.aload_n 0, 1) := by decide +kernel
theorem dX12_number_56 : decode cX12_number 56 = .ok (.bipush 45, 2) := by decide +kernel
theorem dX12_number_58 : decode cX12_number 58 = .ok (.invokevirtual 413, 3) := by decide +kernel
theorem dX12_number_61 : decode cX12_number 61 = .ok (.lload 4, 2) := by decide +kernel
theorem dX12_number_63 : decode cX12_number 63 = .ok (.lstore 6, 2) := by decide +kernel
theorem dX12_number_65 : decode cX12_number 65 = .ok (.lload 6, 2) := by decide +kernel
theorem dX12_number_67 : decode cX12_number 67 = .ok (.lconst 0, 1) := by decide +kernel
theorem dX12_number_68 : decode cX12_number 68 = .ok (.lcmp, 1) := by decide +kernel
theorem dX12_number_69 : decode cX12_number 69 = .ok (.ifCond .le 30, 3) := by decide +kernel
theorem dX12_number_72 : decode cX12_number 72 = .ok (.aload_n 0, 1) := by decide +kernel
theorem dX12_number_73 : decode cX12_number 73 = .ok (.lload_n 2, 1) := by decide +kernel
theorem dX12_number_74 : decode cX12_number 74 = .ok (.lload 6, 2) := by decide +kernel
theorem dX12_number_76 : decode cX12_number 76 = .ok (.ldiv, 1) := by decide +kernel
theorem dX12_number_77 : decode cX12_number 77 = .ok (.ldc2_w 251, 3) := by decide +kernel
theorem dX12_number_80 : decode cX12_number 80 = .ok (.lrem, 1) := by decide +kernel
theorem dX12_number_81 : decode cX12_number 81 = .ok (.l2i, 1) := by decide +kernel
theorem dX12_number_82 : decode cX12_number 82 = .ok (.bipush 48, 2) := by decide +kernel
theorem dX12_number_84 : decode cX12_number 84 = .ok (.iadd, 1) := by decide +kernel
theorem dX12_number_85 : decode cX12_number 85 = .ok (.invokevirtual 413, 3) := by decide +kernel
theorem dX12_number_88 : decode cX12_number 88 = .ok (.lload 6, 2) := by decide +kernel
theorem dX12_number_90 : decode cX12_number 90 = .ok (.ldc2_w 251, 3) := by decide +kernel
theorem dX12_number_93 : decode cX12_number 93 = .ok (.ldiv, 1) := by decide +kernel
theorem dX12_number_94 : decode cX12_number 94 = .ok (.lstore 6, 2) := by decide +kernel
theorem dX12_number_96 : decode cX12_number 96 = .ok (.goto (-31), 3) := by decide +kernel
theorem dX12_number_99 : decode cX12_number 99 = .ok (.return_, 1) := by decide +kernel
theorem dX12_makes_0 : decode cX12_makes 0 = .ok (.iload_n 1, 1) := by decide +kernel
theorem dX12_makes_1 : decode cX12_makes 1 = .ok (.lookupswitch 134 #[(54, 35), (58, 88), (59, 110)], 35) := by decide +kernel
theorem dX12_makes_36 : decode cX12_makes 36 = .ok (.aload_n 0, 1) := by decide +kernel
theorem dX12_makes_37 : decode cX12_makes 37 = .ok (.getfield 338, 3) := by decide +kernel
theorem dX12_makes_40 : decode cX12_makes 40 = .ok (.ifCond .le 6, 3) := by decide +kernel
theorem dX12_makes_43 : decode cX12_makes 43 = .ok (.bipush (-22), 2) := by decide +kernel
theorem dX12_makes_45 : decode cX12_makes 45 = .ok (.ireturn, 1) := by decide +kernel
theorem dX12_makes_46 : decode cX12_makes 46 = .ok (.aload_n 0, 1) := by decide +kernel
theorem dX12_makes_47 : decode cX12_makes 47 = .ok (.getfield 276, 3) := by decide +kernel
theorem dX12_makes_50 : decode cX12_makes 50 = .ok (.sipush 400, 3) := by decide +kernel
theorem dX12_makes_53 : decode cX12_makes 53 = .ok (.if_icmp .ne 6, 3) := by decide +kernel
theorem dX12_makes_56 : decode cX12_makes 56 = .ok (.bipush (-8), 2) := by decide +kernel
theorem dX12_makes_58 : decode cX12_makes 58 = .ok (.ireturn, 1) := by decide +kernel
theorem dX12_makes_59 : decode cX12_makes 59 = .ok (.aload_n 0, 1) := by decide +kernel
theorem dX12_makes_60 : decode cX12_makes 60 = .ok (.iconst 0, 1) := by decide +kernel
theorem dX12_makes_61 : decode cX12_makes 61 = .ok (.invokevirtual 279, 3) := by decide +kernel
theorem dX12_makes_64 : decode cX12_makes 64 = .ok (.pop, 1) := by decide +kernel
theorem dX12_makes_65 : decode cX12_makes 65 = .ok (.aload_n 0, 1) := by decide +kernel
theorem dX12_makes_66 : decode cX12_makes 66 = .ok (.getfield 200, 3) := by decide +kernel
theorem dX12_makes_69 : decode cX12_makes 69 = .ok (.aload_n 0, 1) := by decide +kernel
theorem dX12_makes_70 : decode cX12_makes 70 = .ok (.getfield 239, 3) := by decide +kernel
theorem dX12_makes_73 : decode cX12_makes 73 = .ok (.iconst 1, 1) := by decide +kernel
theorem dX12_makes_74 : decode cX12_makes 74 = .ok (.isub, 1) := by decide +kernel
theorem dX12_makes_75 : decode cX12_makes 75 = .ok (.iconst 1, 1) := by decide +kernel
theorem dX12_makes_76 : decode cX12_makes 76 = .ok (.bastore, 1) := by decide +kernel
theorem dX12_makes_77 : decode cX12_makes 77 = .ok (.aload_n 0, 1) := by decide +kernel
theorem dX12_makes_78 : decode cX12_makes 78 = .ok (.iconst 0, 1) := by decide +kernel
theorem dX12_makes_79 : decode cX12_makes 79 = .ok (.putfield 341, 3) := by decide +kernel
theorem dX12_makes_82 : decode cX12_makes 82 = .ok (.aload_n 0, 1) := by decide +kernel
theorem dX12_makes_83 : decode cX12_makes 83 = .ok (.iconst 0, 1) := by decide +kernel
theorem dX12_makes_84 : decode cX12_makes 84 = .ok (.putfield 270, 3) := by decide +kernel
theorem dX12_makes_87 : decode cX12_makes 87 = .ok (.iconst 0, 1) := by decide +kernel
theorem dX12_makes_88 : decode cX12_makes 88 = .ok (.ireturn, 1) := by decide +kernel
theorem dX12_makes_89 : decode cX12_makes 89 = .ok (.aload_n 0, 1) := by decide +kernel
theorem dX12_makes_90 : decode cX12_makes 90 = .ok (.getfield 276, 3) := by decide +kernel
theorem dX12_makes_93 : decode cX12_makes 93 = .ok (.sipush 400, 3) := by decide +kernel
theorem dX12_makes_96 : decode cX12_makes 96 = .ok (.if_icmp .ne 8, 3) := by decide +kernel
theorem dX12_makes_99 : decode cX12_makes 99 = .ok (.bipush (-8), 2) := by decide +kernel
theorem dX12_makes_101 : decode cX12_makes 101 = .ok (.goto 9, 3) := by decide +kernel
theorem dX12_makes_104 : decode cX12_makes 104 = .ok (.aload_n 0, 1) := by decide +kernel
theorem dX12_makes_105 : decode cX12_makes 105 = .ok (.bipush 7, 2) := by decide +kernel
theorem dX12_makes_107 : decode cX12_makes 107 = .ok (.invokevirtual 279, 3) := by decide +kernel
theorem dX12_makes_110 : decode cX12_makes 110 = .ok (.ireturn, 1) := by decide +kernel
theorem dX12_makes_111 : decode cX12_makes 111 = .ok (.aload_n 0, 1) := by decide +kernel
theorem dX12_makes_112 : decode cX12_makes 112 = .ok (.getfield 239, 3) := by decide +kernel
theorem dX12_makes_115 : decode cX12_makes 115 = .ok (.ifCond .ne 6, 3) := by decide +kernel
theorem dX12_makes_118 : decode cX12_makes 118 = .ok (.bipush (-32), 2) := by decide +kernel
theorem dX12_makes_120 : decode cX12_makes 120 = .ok (.ireturn, 1) := by decide +kernel
theorem dX12_makes_121 : decode cX12_makes 121 = .ok (.aload_n 0, 1) := by decide +kernel
theorem dX12_makes_122 : decode cX12_makes 122 = .ok (.getfield 196, 3) := by decide +kernel
theorem dX12_makes_125 : decode cX12_makes 125 = .ok (.aload_n 0, 1) := by decide +kernel
theorem dX12_makes_126 : decode cX12_makes 126 = .ok (.getfield 239, 3) := by decide +kernel
theorem dX12_makes_129 : decode cX12_makes 129 = .ok (.iconst 1, 1) := by decide +kernel
theorem dX12_makes_130 : decode cX12_makes 130 = .ok (.isub, 1) := by decide +kernel
theorem dX12_makes_131 : decode cX12_makes 131 = .ok (.iconst 1, 1) := by decide +kernel
theorem dX12_makes_132 : decode cX12_makes 132 = .ok (.bastore, 1) := by decide +kernel
theorem dX12_makes_133 : decode cX12_makes 133 = .ok (.iconst 0, 1) := by decide +kernel
theorem dX12_makes_134 : decode cX12_makes 134 = .ok (.ireturn, 1) := by decide +kernel
theorem dX12_makes_135 : decode cX12_makes 135 = .ok (.aload_n 0, 1) := by decide +kernel
theorem dX12_makes_136 : decode cX12_makes 136 = .ok (.iload_n 1, 1) := by decide +kernel
theorem dX12_makes_137 : decode cX12_makes 137 = .ok (.invokevirtual 416, 3) := by decide +kernel
theorem dX12_makes_140 : decode cX12_makes 140 = .ok (.ireturn, 1) := by decide +kernel
theorem dX12_begins_0 : decode cX12_begins 0 = .ok (.aload_n 0, 1) := by decide +kernel
theorem dX12_begins_1 : decode cX12_begins 1 = .ok (.getfield 341, 3) := by decide +kernel
theorem dX12_begins_4 : decode cX12_begins 4 = .ok (.ifCond .eq 6, 3) := by decide +kernel
theorem dX12_begins_7 : decode cX12_begins 7 = .ok (.bipush (-29), 2) := by decide +kernel
theorem dX12_begins_9 : decode cX12_begins 9 = .ok (.ireturn, 1) := by decide +kernel
theorem dX12_begins_10 : decode cX12_begins 10 = .ok (.aload_n 0, 1) := by decide +kernel
theorem dX12_begins_11 : decode cX12_begins 11 = .ok (.invokevirtual 419, 3) := by decide +kernel
theorem dX12_begins_14 : decode cX12_begins 14 = .ok (.istore_n 2, 1) := by decide +kernel
theorem dX12_begins_15 : decode cX12_begins 15 = .ok (.iload_n 2, 1) := by decide +kernel
theorem dX12_begins_16 : decode cX12_begins 16 = .ok (.ifCond .eq 5, 3) := by decide +kernel
theorem dX12_begins_19 : decode cX12_begins 19 = .ok (.iload_n 2, 1) := by decide +kernel
theorem dX12_begins_20 : decode cX12_begins 20 = .ok (.ireturn, 1) := by decide +kernel
theorem dX12_begins_21 : decode cX12_begins 21 = .ok (.aload_n 0, 1) := by decide +kernel
theorem dX12_begins_22 : decode cX12_begins 22 = .ok (.getfield 239, 3) := by decide +kernel
theorem dX12_begins_25 : decode cX12_begins 25 = .ok (.bipush 40, 2) := by decide +kernel
theorem dX12_begins_27 : decode cX12_begins 27 = .ok (.if_icmp .eq 25, 3) := by decide +kernel
theorem dX12_begins_30 : decode cX12_begins 30 = .ok (.iload_n 1, 1) := by decide +kernel
theorem dX12_begins_31 : decode cX12_begins 31 = .ok (.bipush 55, 2) := by decide +kernel
theorem dX12_begins_33 : decode cX12_begins 33 = .ok (.if_icmp .eq 9, 3) := by decide +kernel
theorem dX12_begins_36 : decode cX12_begins 36 = .ok (.iload_n 1, 1) := by decide +kernel
theorem dX12_begins_37 : decode cX12_begins 37 = .ok (.bipush 56, 2) := by decide +kernel
theorem dX12_begins_39 : decode cX12_begins 39 = .ok (.if_icmp .ne 16, 3) := by decide +kernel
theorem dX12_begins_42 : decode cX12_begins 42 = .ok (.aload_n 0, 1) := by decide +kernel
theorem dX12_begins_43 : decode cX12_begins 43 = .ok (.getfield 276, 3) := by decide +kernel
theorem dX12_begins_46 : decode cX12_begins 46 = .ok (.sipush 400, 3) := by decide +kernel
theorem dX12_begins_49 : decode cX12_begins 49 = .ok (.if_icmp .ne 6, 3) := by decide +kernel
theorem dX12_begins_52 : decode cX12_begins 52 = .ok (.bipush (-8), 2) := by decide +kernel
theorem dX12_begins_54 : decode cX12_begins 54 = .ok (.ireturn, 1) := by decide +kernel
theorem dX12_begins_55 : decode cX12_begins 55 = .ok (.aload_n 0, 1) := by decide +kernel
theorem dX12_begins_56 : decode cX12_begins 56 = .ok (.getfield 187, 3) := by decide +kernel
theorem dX12_begins_59 : decode cX12_begins 59 = .ok (.aload_n 0, 1) := by decide +kernel
theorem dX12_begins_60 : decode cX12_begins 60 = .ok (.getfield 239, 3) := by decide +kernel
theorem dX12_begins_63 : decode cX12_begins 63 = .ok (.aload_n 0, 1) := by decide +kernel
theorem dX12_begins_64 : decode cX12_begins 64 = .ok (.getfield 276, 3) := by decide +kernel
theorem dX12_begins_67 : decode cX12_begins 67 = .ok (.iastore, 1) := by decide +kernel
theorem dX12_begins_68 : decode cX12_begins 68 = .ok (.aload_n 0, 1) := by decide +kernel
theorem dX12_begins_69 : decode cX12_begins 69 = .ok (.getfield 190, 3) := by decide +kernel
theorem dX12_begins_72 : decode cX12_begins 72 = .ok (.aload_n 0, 1) := by decide +kernel
theorem dX12_begins_73 : decode cX12_begins 73 = .ok (.getfield 239, 3) := by decide +kernel
theorem dX12_begins_76 : decode cX12_begins 76 = .ok (.iload_n 1, 1) := by decide +kernel
theorem dX12_begins_77 : decode cX12_begins 77 = .ok (.bipush 53, 2) := by decide +kernel
theorem dX12_begins_79 : decode cX12_begins 79 = .ok (.if_icmp .ne 7, 3) := by decide +kernel
theorem dX12_begins_82 : decode cX12_begins 82 = .ok (.iconst 1, 1) := by decide +kernel
theorem dX12_begins_83 : decode cX12_begins 83 = .ok (.goto 14, 3) := by decide +kernel
theorem dX12_begins_86 : decode cX12_begins 86 = .ok (.iload_n 1, 1) := by decide +kernel
theorem dX12_begins_87 : decode cX12_begins 87 = .ok (.bipush 55, 2) := by decide +kernel
theorem dX12_begins_89 : decode cX12_begins 89 = .ok (.if_icmp .ne 7, 3) := by decide +kernel
theorem dX12_begins_92 : decode cX12_begins 92 = .ok (.iconst 3, 1) := by decide +kernel
theorem dX12_begins_93 : decode cX12_begins 93 = .ok (.goto 4, 3) := by decide +kernel
theorem dX12_begins_96 : decode cX12_begins 96 = .ok (.iconst 2, 1) := by decide +kernel
theorem dX12_begins_97 : decode cX12_begins 97 = .ok (.iastore, 1) := by decide +kernel
theorem dX12_begins_98 : decode cX12_begins 98 = .ok (.aload_n 0, 1) := by decide +kernel
theorem dX12_begins_99 : decode cX12_begins 99 = .ok (.getfield 193, 3) := by decide +kernel
theorem dX12_begins_102 : decode cX12_begins 102 = .ok (.aload_n 0, 1) := by decide +kernel
theorem dX12_begins_103 : decode cX12_begins 103 = .ok (.getfield 239, 3) := by decide +kernel
theorem dX12_begins_106 : decode cX12_begins 106 = .ok (.iconst (-1), 1) := by decide +kernel
theorem dX12_begins_107 : decode cX12_begins 107 = .ok (.iastore, 1) := by decide +kernel
theorem dX12_begins_108 : decode cX12_begins 108 = .ok (.aload_n 0, 1) := by decide +kernel
theorem dX12_begins_109 : decode cX12_begins 109 = .ok (.getfield 196, 3) := by decide +kernel
theorem dX12_begins_112 : decode cX12_begins 112 = .ok (.aload_n 0, 1) := by decide +kernel
theorem dX12_begins_113 : decode cX12_begins 113 = .ok (.getfield 239, 3) := by decide +kernel
theorem dX12_begins_116 : decode cX12_begins 116 = .ok (.iconst 0, 1) := by decide +kernel
theorem dX12_begins_117 : decode cX12_begins 117 = .ok (.bastore, 1) := by decide +kernel
theorem dX12_begins_118 : decode cX12_begins 118 = .ok (.aload_n 0, 1) := by decide +kernel
theorem dX12_begins_119 : decode cX12_begins 119 = .ok (.getfield 200, 3) := by decide +kernel
theorem dX12_begins_122 : decode cX12_begins 122 = .ok (.aload_n 0, 1) := by decide +kernel
theorem dX12_begins_123 : decode cX12_begins 123 = .ok (.getfield 239, 3) := by decide +kernel
theorem dX12_begins_126 : decode cX12_begins 126 = .ok (.iload_n 1, 1) := by decide +kernel
theorem dX12_begins_127 : decode cX12_begins 127 = .ok (.bipush 53, 2) := by decide +kernel
theorem dX12_begins_129 : decode cX12_begins 129 = .ok (.if_icmp .eq 7, 3) := by decide +kernel
theorem dX12_begins_132 : decode cX12_begins 132 = .ok (.iconst 1, 1) := by decide +kernel
theorem dX12_begins_133 : decode cX12_begins 133 = .ok (.goto 4, 3) := by decide +kernel
theorem dX12_begins_136 : decode cX12_begins 136 = .ok (.iconst 0, 1) := by decide +kernel
theorem dX12_begins_137 : decode cX12_begins 137 = .ok (.bastore, 1) := by decide +kernel
theorem dX12_begins_138 : decode cX12_begins 138 = .ok (.aload_n 0, 1) := by decide +kernel
theorem dX12_begins_139 : decode cX12_begins 139 = .ok (.getfield 206, 3) := by decide +kernel
theorem dX12_begins_142 : decode cX12_begins 142 = .ok (.aload_n 0, 1) := by decide +kernel
theorem dX12_begins_143 : decode cX12_begins 143 = .ok (.getfield 239, 3) := by decide +kernel
theorem dX12_begins_146 : decode cX12_begins 146 = .ok (.aload_n 0, 1) := by decide +kernel
theorem dX12_begins_147 : decode cX12_begins 147 = .ok (.getfield 232, 3) := by decide +kernel
theorem dX12_begins_150 : decode cX12_begins 150 = .ok (.iastore, 1) := by decide +kernel
theorem dX12_begins_151 : decode cX12_begins 151 = .ok (.iconst 0, 1) := by decide +kernel
theorem dX12_begins_152 : decode cX12_begins 152 = .ok (.istore_n 3, 1) := by decide +kernel
theorem dX12_begins_153 : decode cX12_begins 153 = .ok (.iload_n 3, 1) := by decide +kernel
theorem dX12_begins_154 : decode cX12_begins 154 = .ok (.aload_n 0, 1) := by decide +kernel
theorem dX12_begins_155 : decode cX12_begins 155 = .ok (.getfield 232, 3) := by decide +kernel
theorem dX12_begins_158 : decode cX12_begins 158 = .ok (.if_icmp .ge 34, 3) := by decide +kernel
theorem dX12_begins_161 : decode cX12_begins 161 = .ok (.aload_n 0, 1) := by decide +kernel
theorem dX12_begins_162 : decode cX12_begins 162 = .ok (.getfield 203, 3) := by decide +kernel
theorem dX12_begins_165 : decode cX12_begins 165 = .ok (.bipush 9, 2) := by decide +kernel
theorem dX12_begins_167 : decode cX12_begins 167 = .ok (.aload_n 0, 1) := by decide +kernel
theorem dX12_begins_168 : decode cX12_begins 168 = .ok (.getfield 239, 3) := by decide +kernel
theorem dX12_begins_171 : decode cX12_begins 171 = .ok (.imul, 1) := by decide +kernel
theorem dX12_begins_172 : decode cX12_begins 172 = .ok (.iload_n 3, 1) := by decide +kernel
theorem dX12_begins_173 : decode cX12_begins 173 = .ok (.iadd, 1) := by decide +kernel
theorem dX12_begins_174 : decode cX12_begins 174 = .ok (.aload_n 0, 1) := by decide +kernel
theorem dX12_begins_175 : decode cX12_begins 175 = .ok (.getfield 162, 3) := by decide +kernel
theorem dX12_begins_178 : decode cX12_begins 178 = .ok (.aload_n 0, 1) := by decide +kernel
theorem dX12_begins_179 : decode cX12_begins 179 = .ok (.getfield 229, 3) := by decide +kernel
theorem dX12_begins_182 : decode cX12_begins 182 = .ok (.iload_n 3, 1) := by decide +kernel
theorem dX12_begins_183 : decode cX12_begins 183 = .ok (.iadd, 1) := by decide +kernel
theorem dX12_begins_184 : decode cX12_begins 184 = .ok (.iaload, 1) := by decide +kernel
theorem dX12_begins_185 : decode cX12_begins 185 = .ok (.iastore, 1) := by decide +kernel
theorem dX12_begins_186 : decode cX12_begins 186 = .ok (.iinc 3 1, 3) := by decide +kernel
theorem dX12_begins_189 : decode cX12_begins 189 = .ok (.goto (-36), 3) := by decide +kernel
theorem dX12_begins_192 : decode cX12_begins 192 = .ok (.aload_n 0, 1) := by decide +kernel
theorem dX12_begins_193 : decode cX12_begins 193 = .ok (.dup, 1) := by decide +kernel
theorem dX12_begins_194 : decode cX12_begins 194 = .ok (.getfield 239, 3) := by decide +kernel
theorem dX12_begins_197 : decode cX12_begins 197 = .ok (.iconst 1, 1) := by decide +kernel
theorem dX12_begins_198 : decode cX12_begins 198 = .ok (.iadd, 1) := by decide +kernel
theorem dX12_begins_199 : decode cX12_begins 199 = .ok (.putfield 239, 3) := by decide +kernel
theorem dX12_begins_202 : decode cX12_begins 202 = .ok (.aload_n 0, 1) := by decide +kernel
theorem dX12_begins_203 : decode cX12_begins 203 = .ok (.aload_n 0, 1) := by decide +kernel
theorem dX12_begins_204 : decode cX12_begins 204 = .ok (.getfield 276, 3) := by decide +kernel
theorem dX12_begins_207 : decode cX12_begins 207 = .ok (.putfield 344, 3) := by decide +kernel
theorem dX12_begins_210 : decode cX12_begins 210 = .ok (.aload_n 0, 1) := by decide +kernel
theorem dX12_begins_211 : decode cX12_begins 211 = .ok (.iload_n 1, 1) := by decide +kernel
theorem dX12_begins_212 : decode cX12_begins 212 = .ok (.bipush 53, 2) := by decide +kernel
theorem dX12_begins_214 : decode cX12_begins 214 = .ok (.if_icmp .ne 7, 3) := by decide +kernel
theorem dX12_begins_217 : decode cX12_begins 217 = .ok (.iconst 1, 1) := by decide +kernel
theorem dX12_begins_218 : decode cX12_begins 218 = .ok (.goto 4, 3) := by decide +kernel
theorem dX12_begins_221 : decode cX12_begins 221 = .ok (.iconst 0, 1) := by decide +kernel
theorem dX12_begins_222 : decode cX12_begins 222 = .ok (.putfield 341, 3) := by decide +kernel
theorem dX12_begins_225 : decode cX12_begins 225 = .ok (.aload_n 0, 1) := by decide +kernel
theorem dX12_begins_226 : decode cX12_begins 226 = .ok (.aload_n 0, 1) := by decide +kernel
theorem dX12_begins_227 : decode cX12_begins 227 = .ok (.getfield 270, 3) := by decide +kernel
theorem dX12_begins_230 : decode cX12_begins 230 = .ok (.ifCond .ne 10, 3) := by decide +kernel
theorem dX12_begins_233 : decode cX12_begins 233 = .ok (.aload_n 0, 1) := by decide +kernel
theorem dX12_begins_234 : decode cX12_begins 234 = .ok (.getfield 341, 3) := by decide +kernel
theorem dX12_begins_237 : decode cX12_begins 237 = .ok (.ifCond .eq 7, 3) := by decide +kernel
theorem dX12_begins_240 : decode cX12_begins 240 = .ok (.iconst 1, 1) := by decide +kernel
theorem dX12_begins_241 : decode cX12_begins 241 = .ok (.goto 4, 3) := by decide +kernel
theorem dX12_begins_244 : decode cX12_begins 244 = .ok (.iconst 0, 1) := by decide +kernel
theorem dX12_begins_245 : decode cX12_begins 245 = .ok (.putfield 270, 3) := by decide +kernel
theorem dX12_begins_248 : decode cX12_begins 248 = .ok (.iload_n 1, 1) := by decide +kernel
theorem dX12_begins_249 : decode cX12_begins 249 = .ok (.bipush 55, 2) := by decide +kernel
theorem dX12_begins_251 : decode cX12_begins 251 = .ok (.if_icmp .ne 12, 3) := by decide +kernel
theorem dX12_begins_254 : decode cX12_begins 254 = .ok (.aload_n 0, 1) := by decide +kernel
theorem dX12_begins_255 : decode cX12_begins 255 = .ok (.aload_n 0, 1) := by decide +kernel
theorem dX12_begins_256 : decode cX12_begins 256 = .ok (.invokevirtual 390, 3) := by decide +kernel
theorem dX12_begins_259 : decode cX12_begins 259 = .ok (.invokevirtual 279, 3) := by decide +kernel
theorem dX12_begins_262 : decode cX12_begins 262 = .ok (.pop, 1) := by decide +kernel
theorem dX12_begins_263 : decode cX12_begins 263 = .ok (.iload_n 1, 1) := by decide +kernel
theorem dX12_begins_264 : decode cX12_begins 264 = .ok (.bipush 56, 2) := by decide +kernel
theorem dX12_begins_266 : decode cX12_begins 266 = .ok (.if_icmp .ne 9, 3) := by decide +kernel
theorem dX12_begins_269 : decode cX12_begins 269 = .ok (.aload_n 0, 1) := by decide +kernel
theorem dX12_begins_270 : decode cX12_begins 270 = .ok (.iconst 0, 1) := by decide +kernel
theorem dX12_begins_271 : decode cX12_begins 271 = .ok (.invokevirtual 279, 3) := by decide +kernel
theorem dX12_begins_274 : decode cX12_begins 274 = .ok (.pop, 1) := by decide +kernel
theorem dX12_begins_275 : decode cX12_begins 275 = .ok (.iconst 0, 1) := by decide +kernel
theorem dX12_begins_276 : decode cX12_begins 276 = .ok (.ireturn, 1) := by decide +kernel
theorem dX12_tells_0 : decode cX12_tells 0 = .ok (.iload_n 1, 1) := by decide +kernel
theorem dX12_tells_1 : decode cX12_tells 1 = .ok (.bipush 60, 2) := by decide +kernel
theorem dX12_tells_3 : decode cX12_tells 3 = .ok (.if_icmp .eq 15, 3) := by decide +kernel
theorem dX12_tells_6 : decode cX12_tells 6 = .ok (.iload_n 1, 1) := by decide +kernel
theorem dX12_tells_7 : decode cX12_tells 7 = .ok (.bipush 61, 2) := by decide +kernel
theorem dX12_tells_9 : decode cX12_tells 9 = .ok (.if_icmp .eq 9, 3) := by decide +kernel
theorem dX12_tells_12 : decode cX12_tells 12 = .ok (.iload_n 1, 1) := by decide +kernel
theorem dX12_tells_13 : decode cX12_tells 13 = .ok (.bipush 65, 2) := by decide +kernel
theorem dX12_tells_15 : decode cX12_tells 15 = .ok (.if_icmp .ne 7, 3) := by decide +kernel
theorem dX12_tells_18 : decode cX12_tells 18 = .ok (.iconst 1, 1) := by decide +kernel
theorem dX12_tells_19 : decode cX12_tells 19 = .ok (.goto 4, 3) := by decide +kernel
theorem dX12_tells_22 : decode cX12_tells 22 = .ok (.iconst 0, 1) := by decide +kernel
theorem dX12_tells_23 : decode cX12_tells 23 = .ok (.istore_n 2, 1) := by decide +kernel
theorem dX12_tells_24 : decode cX12_tells 24 = .ok (.iload_n 2, 1) := by decide +kernel
theorem dX12_tells_25 : decode cX12_tells 25 = .ok (.ifCond .eq 10, 3) := by decide +kernel
theorem dX12_tells_28 : decode cX12_tells 28 = .ok (.aload_n 0, 1) := by decide +kernel
theorem dX12_tells_29 : decode cX12_tells 29 = .ok (.invokevirtual 419, 3) := by decide +kernel
theorem dX12_tells_32 : decode cX12_tells 32 = .ok (.goto 4, 3) := by decide +kernel
theorem dX12_tells_35 : decode cX12_tells 35 = .ok (.iconst 0, 1) := by decide +kernel
theorem dX12_tells_36 : decode cX12_tells 36 = .ok (.istore_n 3, 1) := by decide +kernel
theorem dX12_tells_37 : decode cX12_tells 37 = .ok (.iload_n 3, 1) := by decide +kernel
theorem dX12_tells_38 : decode cX12_tells 38 = .ok (.ifCond .eq 5, 3) := by decide +kernel
theorem dX12_tells_41 : decode cX12_tells 41 = .ok (.iload_n 3, 1) := by decide +kernel
theorem dX12_tells_42 : decode cX12_tells 42 = .ok (.ireturn, 1) := by decide +kernel
theorem dX12_tells_43 : decode cX12_tells 43 = .ok (.iload_n 2, 1) := by decide +kernel
theorem dX12_tells_44 : decode cX12_tells 44 = .ok (.ifCond .eq 10, 3) := by decide +kernel
theorem dX12_tells_47 : decode cX12_tells 47 = .ok (.aload_n 0, 1) := by decide +kernel
theorem dX12_tells_48 : decode cX12_tells 48 = .ok (.invokevirtual 266, 3) := by decide +kernel
theorem dX12_tells_51 : decode cX12_tells 51 = .ok (.goto 54, 3) := by decide +kernel
theorem dX12_tells_54 : decode cX12_tells 54 = .ok (.iload_n 1, 1) := by decide +kernel
theorem dX12_tells_55 : decode cX12_tells 55 = .ok (.bipush 62, 2) := by decide +kernel
theorem dX12_tells_57 : decode cX12_tells 57 = .ok (.if_icmp .eq 15, 3) := by decide +kernel
theorem dX12_tells_60 : decode cX12_tells 60 = .ok (.iload_n 1, 1) := by decide +kernel
theorem dX12_tells_61 : decode cX12_tells 61 = .ok (.bipush 63, 2) := by decide +kernel
theorem dX12_tells_63 : decode cX12_tells 63 = .ok (.if_icmp .eq 9, 3) := by decide +kernel
theorem dX12_tells_66 : decode cX12_tells 66 = .ok (.iload_n 1, 1) := by decide +kernel
theorem dX12_tells_67 : decode cX12_tells 67 = .ok (.bipush 64, 2) := by decide +kernel
theorem dX12_tells_69 : decode cX12_tells 69 = .ok (.if_icmp .ne 17, 3) := by decide +kernel
theorem dX12_tells_72 : decode cX12_tells 72 = .ok (.aload_n 0, 1) := by decide +kernel
theorem dX12_tells_73 : decode cX12_tells 73 = .ok (.getfield 169, 3) := by decide +kernel
theorem dX12_tells_76 : decode cX12_tells 76 = .ok (.aload_n 0, 1) := by decide +kernel
theorem dX12_tells_77 : decode cX12_tells 77 = .ok (.getfield 293, 3) := by decide +kernel
theorem dX12_tells_80 : decode cX12_tells 80 = .ok (.iconst 1, 1) := by decide +kernel
theorem dX12_tells_81 : decode cX12_tells 81 = .ok (.isub, 1) := by decide +kernel
theorem dX12_tells_82 : decode cX12_tells 82 = .ok (.iaload, 1) := by decide +kernel
theorem dX12_tells_83 : decode cX12_tells 83 = .ok (.goto 22, 3) := by decide +kernel
theorem dX12_tells_86 : decode cX12_tells 86 = .ok (.iload_n 1, 1) := by decide +kernel
theorem dX12_tells_87 : decode cX12_tells 87 = .ok (.bipush 68, 2) := by decide +kernel
theorem dX12_tells_89 : decode cX12_tells 89 = .ok (.if_icmp .ne 15, 3) := by decide +kernel
theorem dX12_tells_92 : decode cX12_tells 92 = .ok (.bipush 82, 2) := by decide +kernel
theorem dX12_tells_94 : decode cX12_tells 94 = .ok (.aload_n 0, 1) := by decide +kernel
theorem dX12_tells_95 : decode cX12_tells 95 = .ok (.getfield 239, 3) := by decide +kernel
theorem dX12_tells_98 : decode cX12_tells 98 = .ok (.iadd, 1) := by decide +kernel
theorem dX12_tells_99 : decode cX12_tells 99 = .ok (.iconst 1, 1) := by decide +kernel
theorem dX12_tells_100 : decode cX12_tells 100 = .ok (.isub, 1) := by decide +kernel
theorem dX12_tells_101 : decode cX12_tells 101 = .ok (.goto 4, 3) := by decide +kernel
theorem dX12_tells_104 : decode cX12_tells 104 = .ok (.iconst 0, 1) := by decide +kernel
theorem dX12_tells_105 : decode cX12_tells 105 = .ok (.istore 4, 2) := by decide +kernel
theorem dX12_tells_107 : decode cX12_tells 107 = .ok (.iload_n 2, 1) := by decide +kernel
theorem dX12_tells_108 : decode cX12_tells 108 = .ok (.ifCond .eq 11, 3) := by decide +kernel
theorem dX12_tells_111 : decode cX12_tells 111 = .ok (.iload 4, 2) := by decide +kernel
theorem dX12_tells_113 : decode cX12_tells 113 = .ok (.ifCond .ge 6, 3) := by decide +kernel
theorem dX12_tells_116 : decode cX12_tells 116 = .ok (.bipush (-13), 2) := by decide +kernel
theorem dX12_tells_118 : decode cX12_tells 118 = .ok (.ireturn, 1) := by decide +kernel
theorem dX12_tells_119 : decode cX12_tells 119 = .ok (.iload_n 1, 1) := by decide +kernel
theorem dX12_tells_120 : decode cX12_tells 120 = .ok (.bipush 62, 2) := by decide +kernel
theorem dX12_tells_122 : decode cX12_tells 122 = .ok (.if_icmp .eq 9, 3) := by decide +kernel
theorem dX12_tells_125 : decode cX12_tells 125 = .ok (.iload_n 1, 1) := by decide +kernel
theorem dX12_tells_126 : decode cX12_tells 126 = .ok (.bipush 63, 2) := by decide +kernel
theorem dX12_tells_128 : decode cX12_tells 128 = .ok (.if_icmp .ne 15, 3) := by decide +kernel
theorem dX12_tells_131 : decode cX12_tells 131 = .ok (.aload_n 0, 1) := by decide +kernel
theorem dX12_tells_132 : decode cX12_tells 132 = .ok (.iload 4, 2) := by decide +kernel
theorem dX12_tells_134 : decode cX12_tells 134 = .ok (.invokevirtual 323, 3) := by decide +kernel
theorem dX12_tells_137 : decode cX12_tells 137 = .ok (.ifCond .ne 6, 3) := by decide +kernel
theorem dX12_tells_140 : decode cX12_tells 140 = .ok (.bipush (-9), 2) := by decide +kernel
theorem dX12_tells_142 : decode cX12_tells 142 = .ok (.ireturn, 1) := by decide +kernel
theorem dX12_tells_143 : decode cX12_tells 143 = .ok (.iload_n 1, 1) := by decide +kernel
theorem dX12_tells_144 : decode cX12_tells 144 = .ok (.bipush 60, 2) := by decide +kernel
theorem dX12_tells_146 : decode cX12_tells 146 = .ok (.if_icmp .ne 24, 3) := by decide +kernel
theorem dX12_tells_149 : decode cX12_tells 149 = .ok (.aload_n 0, 1) := by decide +kernel
theorem dX12_tells_150 : decode cX12_tells 150 = .ok (.getfield 293, 3) := by decide +kernel
theorem dX12_tells_153 : decode cX12_tells 153 = .ok (.bipush 30, 2) := by decide +kernel
theorem dX12_tells_155 : decode cX12_tells 155 = .ok (.if_icmp .ne 8, 3) := by decide +kernel
theorem dX12_tells_158 : decode cX12_tells 158 = .ok (.bipush (-3), 2) := by decide +kernel
theorem dX12_tells_160 : decode cX12_tells 160 = .ok (.goto 9, 3) := by decide +kernel
theorem dX12_tells_163 : decode cX12_tells 163 = .ok (.aload_n 0, 1) := by decide +kernel
theorem dX12_tells_164 : decode cX12_tells 164 = .ok (.iload 4, 2) := by decide +kernel
theorem dX12_tells_166 : decode cX12_tells 166 = .ok (.invokevirtual 296, 3) := by decide +kernel
theorem dX12_tells_169 : decode cX12_tells 169 = .ok (.ireturn, 1) := by decide +kernel
theorem dX12_tells_170 : decode cX12_tells 170 = .ok (.iload_n 1, 1) := by decide +kernel
theorem dX12_tells_171 : decode cX12_tells 171 = .ok (.bipush 62, 2) := by decide +kernel
theorem dX12_tells_173 : decode cX12_tells 173 = .ok (.if_icmp .ne 13, 3) := by decide +kernel
theorem dX12_tells_176 : decode cX12_tells 176 = .ok (.aload_n 0, 1) := by decide +kernel
theorem dX12_tells_177 : decode cX12_tells 177 = .ok (.aload_n 0, 1) := by decide +kernel
theorem dX12_tells_178 : decode cX12_tells 178 = .ok (.invokevirtual 390, 3) := by decide +kernel
theorem dX12_tells_181 : decode cX12_tells 181 = .ok (.putfield 326, 3) := by decide +kernel
theorem dX12_tells_184 : decode cX12_tells 184 = .ok (.iconst 0, 1) := by decide +kernel
theorem dX12_tells_185 : decode cX12_tells 185 = .ok (.ireturn, 1) := by decide +kernel
theorem dX12_tells_186 : decode cX12_tells 186 = .ok (.iload_n 1, 1) := by decide +kernel
theorem dX12_tells_187 : decode cX12_tells 187 = .ok (.bipush 66, 2) := by decide +kernel
theorem dX12_tells_189 : decode cX12_tells 189 = .ok (.if_icmp .eq 9, 3) := by decide +kernel
theorem dX12_tells_192 : decode cX12_tells 192 = .ok (.iload_n 1, 1) := by decide +kernel
theorem dX12_tells_193 : decode cX12_tells 193 = .ok (.bipush 67, 2) := by decide +kernel
theorem dX12_tells_195 : decode cX12_tells 195 = .ok (.if_icmp .ne 36, 3) := by decide +kernel
theorem dX12_tells_198 : decode cX12_tells 198 = .ok (.iload_n 1, 1) := by decide +kernel
theorem dX12_tells_199 : decode cX12_tells 199 = .ok (.bipush 67, 2) := by decide +kernel
theorem dX12_tells_201 : decode cX12_tells 201 = .ok (.if_icmp .ne 13, 3) := by decide +kernel
theorem dX12_tells_204 : decode cX12_tells 204 = .ok (.aload_n 0, 1) := by decide +kernel
theorem dX12_tells_205 : decode cX12_tells 205 = .ok (.getfield 341, 3) := by decide +kernel
theorem dX12_tells_208 : decode cX12_tells 208 = .ok (.ifCond .ne 6, 3) := by decide +kernel
theorem dX12_tells_211 : decode cX12_tells 211 = .ok (.bipush (-14), 2) := by decide +kernel
theorem dX12_tells_213 : decode cX12_tells 213 = .ok (.ireturn, 1) := by decide +kernel
theorem dX12_tells_214 : decode cX12_tells 214 = .ok (.aload_n 0, 1) := by decide +kernel
theorem dX12_tells_215 : decode cX12_tells 215 = .ok (.iload_n 1, 1) := by decide +kernel
theorem dX12_tells_216 : decode cX12_tells 216 = .ok (.bipush 67, 2) := by decide +kernel
theorem dX12_tells_218 : decode cX12_tells 218 = .ok (.if_icmp .ne 7, 3) := by decide +kernel
theorem dX12_tells_221 : decode cX12_tells 221 = .ok (.iconst 1, 1) := by decide +kernel
theorem dX12_tells_222 : decode cX12_tells 222 = .ok (.goto 4, 3) := by decide +kernel
theorem dX12_tells_225 : decode cX12_tells 225 = .ok (.iconst 0, 1) := by decide +kernel
theorem dX12_tells_226 : decode cX12_tells 226 = .ok (.putfield 270, 3) := by decide +kernel
theorem dX12_tells_229 : decode cX12_tells 229 = .ok (.iconst 0, 1) := by decide +kernel
theorem dX12_tells_230 : decode cX12_tells 230 = .ok (.ireturn, 1) := by decide +kernel
theorem dX12_tells_231 : decode cX12_tells 231 = .ok (.iload_n 1, 1) := by decide +kernel
theorem dX12_tells_232 : decode cX12_tells 232 = .ok (.bipush 63, 2) := by decide +kernel
theorem dX12_tells_234 : decode cX12_tells 234 = .ok (.if_icmp .eq 24, 3) := by decide +kernel
theorem dX12_tells_237 : decode cX12_tells 237 = .ok (.iload_n 1, 1) := by decide +kernel
theorem dX12_tells_238 : decode cX12_tells 238 = .ok (.bipush 68, 2) := by decide +kernel
theorem dX12_tells_240 : decode cX12_tells 240 = .ok (.if_icmp .eq 18, 3) := by decide +kernel
theorem dX12_tells_243 : decode cX12_tells 243 = .ok (.iload_n 1, 1) := by decide +kernel
theorem dX12_tells_244 : decode cX12_tells 244 = .ok (.bipush 65, 2) := by decide +kernel
theorem dX12_tells_246 : decode cX12_tells 246 = .ok (.if_icmp .ne 16, 3) := by decide +kernel
theorem dX12_tells_249 : decode cX12_tells 249 = .ok (.aload_n 0, 1) := by decide +kernel
theorem dX12_tells_250 : decode cX12_tells 250 = .ok (.iload 4, 2) := by decide +kernel
theorem dX12_tells_252 : decode cX12_tells 252 = .ok (.invokevirtual 273, 3) := by decide +kernel
theorem dX12_tells_255 : decode cX12_tells 255 = .ok (.ifCond .eq 7, 3) := by decide +kernel
theorem dX12_tells_258 : decode cX12_tells 258 = .ok (.iconst 1, 1) := by decide +kernel
theorem dX12_tells_259 : decode cX12_tells 259 = .ok (.goto 4, 3) := by decide +kernel
theorem dX12_tells_262 : decode cX12_tells 262 = .ok (.iconst 0, 1) := by decide +kernel
theorem dX12_tells_263 : decode cX12_tells 263 = .ok (.istore 5, 2) := by decide +kernel
theorem dX12_tells_265 : decode cX12_tells 265 = .ok (.aload_n 0, 1) := by decide +kernel
theorem dX12_tells_266 : decode cX12_tells 266 = .ok (.getfield 276, 3) := by decide +kernel
theorem dX12_tells_269 : decode cX12_tells 269 = .ok (.sipush 400, 3) := by decide +kernel
theorem dX12_tells_272 : decode cX12_tells 272 = .ok (.iload 5, 2) := by decide +kernel
theorem dX12_tells_274 : decode cX12_tells 274 = .ok (.ifCond .eq 7, 3) := by decide +kernel
theorem dX12_tells_277 : decode cX12_tells 277 = .ok (.iconst 1, 1) := by decide +kernel
theorem dX12_tells_278 : decode cX12_tells 278 = .ok (.goto 14, 3) := by decide +kernel
theorem dX12_tells_281 : decode cX12_tells 281 = .ok (.iload_n 1, 1) := by decide +kernel
theorem dX12_tells_282 : decode cX12_tells 282 = .ok (.bipush 65, 2) := by decide +kernel
theorem dX12_tells_284 : decode cX12_tells 284 = .ok (.if_icmp .ne 7, 3) := by decide +kernel
theorem dX12_tells_287 : decode cX12_tells 287 = .ok (.iconst 3, 1) := by decide +kernel
theorem dX12_tells_288 : decode cX12_tells 288 = .ok (.goto 4, 3) := by decide +kernel
theorem dX12_tells_291 : decode cX12_tells 291 = .ok (.iconst 2, 1) := by decide +kernel
theorem dX12_tells_292 : decode cX12_tells 292 = .ok (.isub, 1) := by decide +kernel
theorem dX12_tells_293 : decode cX12_tells 293 = .ok (.if_icmp .le 6, 3) := by decide +kernel
theorem dX12_tells_296 : decode cX12_tells 296 = .ok (.bipush (-8), 2) := by decide +kernel
theorem dX12_tells_298 : decode cX12_tells 298 = .ok (.ireturn, 1) := by decide +kernel
theorem dX12_tells_299 : decode cX12_tells 299 = .ok (.iload 5, 2) := by decide +kernel
theorem dX12_tells_301 : decode cX12_tells 301 = .ok (.ifCond .ne 9, 3) := by decide +kernel
theorem dX12_tells_304 : decode cX12_tells 304 = .ok (.aload_n 0, 1) := by decide +kernel
theorem dX12_tells_305 : decode cX12_tells 305 = .ok (.iconst 1, 1) := by decide +kernel
theorem dX12_tells_306 : decode cX12_tells 306 = .ok (.invokevirtual 279, 3) := by decide +kernel
theorem dX12_tells_309 : decode cX12_tells 309 = .ok (.pop, 1) := by decide +kernel
theorem dX12_tells_310 : decode cX12_tells 310 = .ok (.aload_n 0, 1) := by decide +kernel
theorem dX12_tells_311 : decode cX12_tells 311 = .ok (.iload 4, 2) := by decide +kernel
theorem dX12_tells_313 : decode cX12_tells 313 = .ok (.invokevirtual 279, 3) := by decide +kernel
theorem dX12_tells_316 : decode cX12_tells 316 = .ok (.pop, 1) := by decide +kernel
theorem dX12_tells_317 : decode cX12_tells 317 = .ok (.iload 5, 2) := by decide +kernel
theorem dX12_tells_319 : decode cX12_tells 319 = .ok (.ifCond .ne 16, 3) := by decide +kernel
theorem dX12_tells_322 : decode cX12_tells 322 = .ok (.iload_n 1, 1) := by decide +kernel
theorem dX12_tells_323 : decode cX12_tells 323 = .ok (.bipush 65, 2) := by decide +kernel
theorem dX12_tells_325 : decode cX12_tells 325 = .ok (.if_icmp .ne 10, 3) := by decide +kernel
theorem dX12_tells_328 : decode cX12_tells 328 = .ok (.aload_n 0, 1) := by decide +kernel
theorem dX12_tells_329 : decode cX12_tells 329 = .ok (.bipush 63, 2) := by decide +kernel
theorem dX12_tells_331 : decode cX12_tells 331 = .ok (.invokevirtual 279, 3) := by decide +kernel
theorem dX12_tells_334 : decode cX12_tells 334 = .ok (.pop, 1) := by decide +kernel
theorem dX12_tells_335 : decode cX12_tells 335 = .ok (.iload_n 1, 1) := by decide +kernel
theorem dX12_tells_336 : decode cX12_tells 336 = .ok (.bipush 63, 2) := by decide +kernel
theorem dX12_tells_338 : decode cX12_tells 338 = .ok (.if_icmp .eq 9, 3) := by decide +kernel
theorem dX12_tells_341 : decode cX12_tells 341 = .ok (.iload_n 1, 1) := by decide +kernel
theorem dX12_tells_342 : decode cX12_tells 342 = .ok (.bipush 64, 2) := by decide +kernel
theorem dX12_tells_344 : decode cX12_tells 344 = .ok (.if_icmp .ne 13, 3) := by decide +kernel
theorem dX12_tells_347 : decode cX12_tells 347 = .ok (.aload_n 0, 1) := by decide +kernel
theorem dX12_tells_348 : decode cX12_tells 348 = .ok (.dup, 1) := by decide +kernel
theorem dX12_tells_349 : decode cX12_tells 349 = .ok (.getfield 293, 3) := by decide +kernel
theorem dX12_tells_352 : decode cX12_tells 352 = .ok (.iconst 1, 1) := by decide +kernel
theorem dX12_tells_353 : decode cX12_tells 353 = .ok (.isub, 1) := by decide +kernel
theorem dX12_tells_354 : decode cX12_tells 354 = .ok (.putfield 293, 3) := by decide +kernel
theorem dX12_tells_357 : decode cX12_tells 357 = .ok (.iconst 0, 1) := by decide +kernel
theorem dX12_tells_358 : decode cX12_tells 358 = .ok (.ireturn, 1) := by decide +kernel
theorem dX12_isOpen_0 : decode cX12_isOpen 0 = .ok (.aload_n 0, 1) := by decide +kernel
theorem dX12_isOpen_1 : decode cX12_isOpen 1 = .ok (.getfield 338, 3) := by decide +kernel
theorem dX12_isOpen_4 : decode cX12_isOpen 4 = .ok (.ifCond .le 22, 3) := by decide +kernel
theorem dX12_isOpen_7 : decode cX12_isOpen 7 = .ok (.aload_n 0, 1) := by decide +kernel
theorem dX12_isOpen_8 : decode cX12_isOpen 8 = .ok (.getfield 209, 3) := by decide +kernel
theorem dX12_isOpen_11 : decode cX12_isOpen 11 = .ok (.aload_n 0, 1) := by decide +kernel
theorem dX12_isOpen_12 : decode cX12_isOpen 12 = .ok (.getfield 338, 3) := by decide +kernel
theorem dX12_isOpen_15 : decode cX12_isOpen 15 = .ok (.iconst 1, 1) := by decide +kernel
theorem dX12_isOpen_16 : decode cX12_isOpen 16 = .ok (.isub, 1) := by decide +kernel
theorem dX12_isOpen_17 : decode cX12_isOpen 17 = .ok (.iaload, 1) := by decide +kernel
theorem dX12_isOpen_18 : decode cX12_isOpen 18 = .ok (.iload_n 1, 1) := by decide +kernel
theorem dX12_isOpen_19 : decode cX12_isOpen 19 = .ok (.if_icmp .ne 7, 3) := by decide +kernel
theorem dX12_isOpen_22 : decode cX12_isOpen 22 = .ok (.iconst 1, 1) := by decide +kernel
theorem dX12_isOpen_23 : decode cX12_isOpen 23 = .ok (.goto 4, 3) := by decide +kernel
theorem dX12_isOpen_26 : decode cX12_isOpen 26 = .ok (.iconst 0, 1) := by decide +kernel
theorem dX12_isOpen_27 : decode cX12_isOpen 27 = .ok (.ireturn, 1) := by decide +kernel
theorem dX12_open_0 : decode cX12_open 0 = .ok (.aload_n 0, 1) := by decide +kernel
theorem dX12_open_1 : decode cX12_open 1 = .ok (.getfield 209, 3) := by decide +kernel
theorem dX12_open_4 : decode cX12_open 4 = .ok (.aload_n 0, 1) := by decide +kernel
theorem dX12_open_5 : decode cX12_open 5 = .ok (.getfield 338, 3) := by decide +kernel
theorem dX12_open_8 : decode cX12_open 8 = .ok (.iload_n 1, 1) := by decide +kernel
theorem dX12_open_9 : decode cX12_open 9 = .ok (.iastore, 1) := by decide +kernel
theorem dX12_open_10 : decode cX12_open 10 = .ok (.aload_n 0, 1) := by decide +kernel
theorem dX12_open_11 : decode cX12_open 11 = .ok (.getfield 212, 3) := by decide +kernel
theorem dX12_open_14 : decode cX12_open 14 = .ok (.aload_n 0, 1) := by decide +kernel
theorem dX12_open_15 : decode cX12_open 15 = .ok (.getfield 338, 3) := by decide +kernel
theorem dX12_open_18 : decode cX12_open 18 = .ok (.iload_n 2, 1) := by decide +kernel
theorem dX12_open_19 : decode cX12_open 19 = .ok (.iastore, 1) := by decide +kernel
theorem dX12_open_20 : decode cX12_open 20 = .ok (.aload_n 0, 1) := by decide +kernel
theorem dX12_open_21 : decode cX12_open 21 = .ok (.dup, 1) := by decide +kernel
theorem dX12_open_22 : decode cX12_open 22 = .ok (.getfield 338, 3) := by decide +kernel
theorem dX12_open_25 : decode cX12_open 25 = .ok (.iconst 1, 1) := by decide +kernel
theorem dX12_open_26 : decode cX12_open 26 = .ok (.iadd, 1) := by decide +kernel
theorem dX12_open_27 : decode cX12_open 27 = .ok (.putfield 338, 3) := by decide +kernel
theorem dX12_open_30 : decode cX12_open 30 = .ok (.iconst 0, 1) := by decide +kernel
theorem dX12_open_31 : decode cX12_open 31 = .ok (.ireturn, 1) := by decide +kernel
theorem dX12_expected_0 : decode cX12_expected 0 = .ok (.iload_n 0, 1) := by decide +kernel
theorem dX12_expected_1 : decode cX12_expected 1 = .ok (.bipush 70, 2) := by decide +kernel
theorem dX12_expected_3 : decode cX12_expected 3 = .ok (.if_icmp .eq 9, 3) := by decide +kernel
theorem dX12_expected_6 : decode cX12_expected 6 = .ok (.iload_n 0, 1) := by decide +kernel
theorem dX12_expected_7 : decode cX12_expected 7 = .ok (.bipush 71, 2) := by decide +kernel
theorem dX12_expected_9 : decode cX12_expected 9 = .ok (.if_icmp .ne 7, 3) := by decide +kernel
theorem dX12_expected_12 : decode cX12_expected 12 = .ok (.iconst 1, 1) := by decide +kernel
theorem dX12_expected_13 : decode cX12_expected 13 = .ok (.goto 46, 3) := by decide +kernel
theorem dX12_expected_16 : decode cX12_expected 16 = .ok (.iload_n 0, 1) := by decide +kernel
theorem dX12_expected_17 : decode cX12_expected 17 = .ok (.bipush 73, 2) := by decide +kernel
theorem dX12_expected_19 : decode cX12_expected 19 = .ok (.if_icmp .eq 9, 3) := by decide +kernel
theorem dX12_expected_22 : decode cX12_expected 22 = .ok (.iload_n 0, 1) := by decide +kernel
theorem dX12_expected_23 : decode cX12_expected 23 = .ok (.bipush 74, 2) := by decide +kernel
theorem dX12_expected_25 : decode cX12_expected 25 = .ok (.if_icmp .ne 7, 3) := by decide +kernel
theorem dX12_expected_28 : decode cX12_expected 28 = .ok (.iconst 2, 1) := by decide +kernel
theorem dX12_expected_29 : decode cX12_expected 29 = .ok (.goto 30, 3) := by decide +kernel
theorem dX12_expected_32 : decode cX12_expected 32 = .ok (.iload_n 0, 1) := by decide +kernel
theorem dX12_expected_33 : decode cX12_expected 33 = .ok (.bipush 75, 2) := by decide +kernel
theorem dX12_expected_35 : decode cX12_expected 35 = .ok (.if_icmp .ne 7, 3) := by decide +kernel
theorem dX12_expected_38 : decode cX12_expected 38 = .ok (.iconst 3, 1) := by decide +kernel
theorem dX12_expected_39 : decode cX12_expected 39 = .ok (.goto 20, 3) := by decide +kernel
theorem dX12_expected_42 : decode cX12_expected 42 = .ok (.iload_n 0, 1) := by decide +kernel
theorem dX12_expected_43 : decode cX12_expected 43 = .ok (.bipush 77, 2) := by decide +kernel
theorem dX12_expected_45 : decode cX12_expected 45 = .ok (.if_icmp .eq 9, 3) := by decide +kernel
theorem dX12_expected_48 : decode cX12_expected 48 = .ok (.iload_n 0, 1) := by decide +kernel
theorem dX12_expected_49 : decode cX12_expected 49 = .ok (.bipush 78, 2) := by decide +kernel
theorem dX12_expected_51 : decode cX12_expected 51 = .ok (.if_icmp .ne 7, 3) := by decide +kernel
theorem dX12_expected_54 : decode cX12_expected 54 = .ok (.iconst 4, 1) := by decide +kernel
theorem dX12_expected_55 : decode cX12_expected 55 = .ok (.goto 4, 3) := by decide +kernel
theorem dX12_expected_58 : decode cX12_expected 58 = .ok (.iconst 0, 1) := by decide +kernel
theorem dX12_expected_59 : decode cX12_expected 59 = .ok (.ireturn, 1) := by decide +kernel
theorem dX12_shapes_0 : decode cX12_shapes 0 = .ok (.iload_n 1, 1) := by decide +kernel
theorem dX12_shapes_1 : decode cX12_shapes 1 = .ok (.invokestatic 422, 3) := by decide +kernel
theorem dX12_shapes_4 : decode cX12_shapes 4 = .ok (.istore_n 2, 1) := by decide +kernel
theorem dX12_shapes_5 : decode cX12_shapes 5 = .ok (.iload_n 1, 1) := by decide +kernel
theorem dX12_shapes_6 : decode cX12_shapes 6 = .ok (.bipush 69, 2) := by decide +kernel
theorem dX12_shapes_8 : decode cX12_shapes 8 = .ok (.if_icmp .eq 21, 3) := by decide +kernel
theorem dX12_shapes_11 : decode cX12_shapes 11 = .ok (.iload_n 1, 1) := by decide +kernel
theorem dX12_shapes_12 : decode cX12_shapes 12 = .ok (.bipush 72, 2) := by decide +kernel
theorem dX12_shapes_14 : decode cX12_shapes 14 = .ok (.if_icmp .eq 15, 3) := by decide +kernel
theorem dX12_shapes_17 : decode cX12_shapes 17 = .ok (.iload_n 1, 1) := by decide +kernel
theorem dX12_shapes_18 : decode cX12_shapes 18 = .ok (.bipush 74, 2) := by decide +kernel
theorem dX12_shapes_20 : decode cX12_shapes 20 = .ok (.if_icmp .eq 9, 3) := by decide +kernel
theorem dX12_shapes_23 : decode cX12_shapes 23 = .ok (.iload_n 1, 1) := by decide +kernel
theorem dX12_shapes_24 : decode cX12_shapes 24 = .ok (.bipush 76, 2) := by decide +kernel
theorem dX12_shapes_26 : decode cX12_shapes 26 = .ok (.if_icmp .ne 7, 3) := by decide +kernel
theorem dX12_shapes_29 : decode cX12_shapes 29 = .ok (.iconst 1, 1) := by decide +kernel
theorem dX12_shapes_30 : decode cX12_shapes 30 = .ok (.goto 4, 3) := by decide +kernel
theorem dX12_shapes_33 : decode cX12_shapes 33 = .ok (.iconst 0, 1) := by decide +kernel
theorem dX12_shapes_34 : decode cX12_shapes 34 = .ok (.istore_n 3, 1) := by decide +kernel
theorem dX12_shapes_35 : decode cX12_shapes 35 = .ok (.iload_n 2, 1) := by decide +kernel
theorem dX12_shapes_36 : decode cX12_shapes 36 = .ok (.ifCond .le 11, 3) := by decide +kernel
theorem dX12_shapes_39 : decode cX12_shapes 39 = .ok (.aload_n 0, 1) := by decide +kernel
theorem dX12_shapes_40 : decode cX12_shapes 40 = .ok (.iload_n 2, 1) := by decide +kernel
theorem dX12_shapes_41 : decode cX12_shapes 41 = .ok (.invokevirtual 425, 3) := by decide +kernel
theorem dX12_shapes_44 : decode cX12_shapes 44 = .ok (.ifCond .eq 16, 3) := by decide +kernel
theorem dX12_shapes_47 : decode cX12_shapes 47 = .ok (.iload_n 3, 1) := by decide +kernel
theorem dX12_shapes_48 : decode cX12_shapes 48 = .ok (.ifCond .eq 15, 3) := by decide +kernel
theorem dX12_shapes_51 : decode cX12_shapes 51 = .ok (.aload_n 0, 1) := by decide +kernel
theorem dX12_shapes_52 : decode cX12_shapes 52 = .ok (.getfield 338, 3) := by decide +kernel
theorem dX12_shapes_55 : decode cX12_shapes 55 = .ok (.bipush 12, 2) := by decide +kernel
theorem dX12_shapes_57 : decode cX12_shapes 57 = .ok (.if_icmp .ne 6, 3) := by decide +kernel
theorem dX12_shapes_60 : decode cX12_shapes 60 = .ok (.bipush (-22), 2) := by decide +kernel
theorem dX12_shapes_62 : decode cX12_shapes 62 = .ok (.ireturn, 1) := by decide +kernel
theorem dX12_shapes_63 : decode cX12_shapes 63 = .ok (.iload_n 1, 1) := by decide +kernel
theorem dX12_shapes_64 : decode cX12_shapes 64 = .ok (.bipush 71, 2) := by decide +kernel
theorem dX12_shapes_66 : decode cX12_shapes 66 = .ok (.if_icmp .eq 9, 3) := by decide +kernel
theorem dX12_shapes_69 : decode cX12_shapes 69 = .ok (.iload_n 1, 1) := by decide +kernel
theorem dX12_shapes_70 : decode cX12_shapes 70 = .ok (.bipush 72, 2) := by decide +kernel
theorem dX12_shapes_72 : decode cX12_shapes 72 = .ok (.if_icmp .ne 7, 3) := by decide +kernel
theorem dX12_shapes_75 : decode cX12_shapes 75 = .ok (.iconst 0, 1) := by decide +kernel
theorem dX12_shapes_76 : decode cX12_shapes 76 = .ok (.goto 14, 3) := by decide +kernel
theorem dX12_shapes_79 : decode cX12_shapes 79 = .ok (.iload_n 1, 1) := by decide +kernel
theorem dX12_shapes_80 : decode cX12_shapes 80 = .ok (.bipush 76, 2) := by decide +kernel
theorem dX12_shapes_82 : decode cX12_shapes 82 = .ok (.if_icmp .ne 7, 3) := by decide +kernel
theorem dX12_shapes_85 : decode cX12_shapes 85 = .ok (.iconst 1, 1) := by decide +kernel
theorem dX12_shapes_86 : decode cX12_shapes 86 = .ok (.goto 4, 3) := by decide +kernel
theorem dX12_shapes_89 : decode cX12_shapes 89 = .ok (.iconst 2, 1) := by decide +kernel
theorem dX12_shapes_90 : decode cX12_shapes 90 = .ok (.istore 4, 2) := by decide +kernel
theorem dX12_shapes_92 : decode cX12_shapes 92 = .ok (.aload_n 0, 1) := by decide +kernel
theorem dX12_shapes_93 : decode cX12_shapes 93 = .ok (.getfield 276, 3) := by decide +kernel
theorem dX12_shapes_96 : decode cX12_shapes 96 = .ok (.sipush 400, 3) := by decide +kernel
theorem dX12_shapes_99 : decode cX12_shapes 99 = .ok (.iload 4, 2) := by decide +kernel
theorem dX12_shapes_101 : decode cX12_shapes 101 = .ok (.isub, 1) := by decide +kernel
theorem dX12_shapes_102 : decode cX12_shapes 102 = .ok (.if_icmp .le 6, 3) := by decide +kernel
theorem dX12_shapes_105 : decode cX12_shapes 105 = .ok (.bipush (-8), 2) := by decide +kernel
theorem dX12_shapes_107 : decode cX12_shapes 107 = .ok (.ireturn, 1) := by decide +kernel
theorem dX12_shapes_108 : decode cX12_shapes 108 = .ok (.aload_n 0, 1) := by decide +kernel
theorem dX12_shapes_109 : decode cX12_shapes 109 = .ok (.getfield 338, 3) := by decide +kernel
theorem dX12_shapes_112 : decode cX12_shapes 112 = .ok (.ifCond .le 17, 3) := by decide +kernel
theorem dX12_shapes_115 : decode cX12_shapes 115 = .ok (.aload_n 0, 1) := by decide +kernel
theorem dX12_shapes_116 : decode cX12_shapes 116 = .ok (.getfield 212, 3) := by decide +kernel
theorem dX12_shapes_119 : decode cX12_shapes 119 = .ok (.aload_n 0, 1) := by decide +kernel
theorem dX12_shapes_120 : decode cX12_shapes 120 = .ok (.getfield 338, 3) := by decide +kernel
theorem dX12_shapes_123 : decode cX12_shapes 123 = .ok (.iconst 1, 1) := by decide +kernel
theorem dX12_shapes_124 : decode cX12_shapes 124 = .ok (.isub, 1) := by decide +kernel
theorem dX12_shapes_125 : decode cX12_shapes 125 = .ok (.iaload, 1) := by decide +kernel
theorem dX12_shapes_126 : decode cX12_shapes 126 = .ok (.goto 4, 3) := by decide +kernel
theorem dX12_shapes_129 : decode cX12_shapes 129 = .ok (.iconst 0, 1) := by decide +kernel
theorem dX12_shapes_130 : decode cX12_shapes 130 = .ok (.istore 5, 2) := by decide +kernel
theorem dX12_shapes_132 : decode cX12_shapes 132 = .ok (.iload_n 1, 1) := by decide +kernel
theorem dX12_shapes_133 : decode cX12_shapes 133 = .ok (.tableswitch 183 69 76 #[47, 54, 84, 107, 183, 117, 124, 167], 47) := by decide +kernel
theorem dX12_shapes_180 : decode cX12_shapes 180 = .ok (.aload_n 0, 1) := by decide +kernel
theorem dX12_shapes_181 : decode cX12_shapes 181 = .ok (.iconst 3, 1) := by decide +kernel
theorem dX12_shapes_182 : decode cX12_shapes 182 = .ok (.iconst 1, 1) := by decide +kernel
theorem dX12_shapes_183 : decode cX12_shapes 183 = .ok (.invokevirtual 428, 3) := by decide +kernel
theorem dX12_shapes_186 : decode cX12_shapes 186 = .ok (.ireturn, 1) := by decide +kernel
theorem dX12_shapes_187 : decode cX12_shapes 187 = .ok (.aload_n 0, 1) := by decide +kernel
theorem dX12_shapes_188 : decode cX12_shapes 188 = .ok (.dup, 1) := by decide +kernel
theorem dX12_shapes_189 : decode cX12_shapes 189 = .ok (.getfield 338, 3) := by decide +kernel
theorem dX12_shapes_192 : decode cX12_shapes 192 = .ok (.iconst 1, 1) := by decide +kernel
theorem dX12_shapes_193 : decode cX12_shapes 193 = .ok (.isub, 1) := by decide +kernel
theorem dX12_shapes_194 : decode cX12_shapes 194 = .ok (.putfield 338, 3) := by decide +kernel
theorem dX12_shapes_197 : decode cX12_shapes 197 = .ok (.aload_n 0, 1) := by decide +kernel
theorem dX12_shapes_198 : decode cX12_shapes 198 = .ok (.iconst 2, 1) := by decide +kernel
theorem dX12_shapes_199 : decode cX12_shapes 199 = .ok (.iconst 1, 1) := by decide +kernel
theorem dX12_shapes_200 : decode cX12_shapes 200 = .ok (.invokevirtual 428, 3) := by decide +kernel
theorem dX12_shapes_203 : decode cX12_shapes 203 = .ok (.pop, 1) := by decide +kernel
theorem dX12_shapes_204 : decode cX12_shapes 204 = .ok (.aload_n 0, 1) := by decide +kernel
theorem dX12_shapes_205 : decode cX12_shapes 205 = .ok (.getfield 184, 3) := by decide +kernel
theorem dX12_shapes_208 : decode cX12_shapes 208 = .ok (.iload 5, 2) := by decide +kernel
theorem dX12_shapes_210 : decode cX12_shapes 210 = .ok (.aload_n 0, 1) := by decide +kernel
theorem dX12_shapes_211 : decode cX12_shapes 211 = .ok (.getfield 276, 3) := by decide +kernel
theorem dX12_shapes_214 : decode cX12_shapes 214 = .ok (.iastore, 1) := by decide +kernel
theorem dX12_shapes_215 : decode cX12_shapes 215 = .ok (.iconst 0, 1) := by decide +kernel
theorem dX12_shapes_216 : decode cX12_shapes 216 = .ok (.ireturn, 1) := by decide +kernel
theorem dX12_shapes_217 : decode cX12_shapes 217 = .ok (.aload_n 0, 1) := by decide +kernel
theorem dX12_shapes_218 : decode cX12_shapes 218 = .ok (.dup, 1) := by decide +kernel
theorem dX12_shapes_219 : decode cX12_shapes 219 = .ok (.getfield 338, 3) := by decide +kernel
theorem dX12_shapes_222 : decode cX12_shapes 222 = .ok (.iconst 1, 1) := by decide +kernel
theorem dX12_shapes_223 : decode cX12_shapes 223 = .ok (.isub, 1) := by decide +kernel
theorem dX12_shapes_224 : decode cX12_shapes 224 = .ok (.putfield 338, 3) := by decide +kernel
theorem dX12_shapes_227 : decode cX12_shapes 227 = .ok (.aload_n 0, 1) := by decide +kernel
theorem dX12_shapes_228 : decode cX12_shapes 228 = .ok (.getfield 184, 3) := by decide +kernel
theorem dX12_shapes_231 : decode cX12_shapes 231 = .ok (.iload 5, 2) := by decide +kernel
theorem dX12_shapes_233 : decode cX12_shapes 233 = .ok (.aload_n 0, 1) := by decide +kernel
theorem dX12_shapes_234 : decode cX12_shapes 234 = .ok (.getfield 276, 3) := by decide +kernel
theorem dX12_shapes_237 : decode cX12_shapes 237 = .ok (.iastore, 1) := by decide +kernel
theorem dX12_shapes_238 : decode cX12_shapes 238 = .ok (.iconst 0, 1) := by decide +kernel
theorem dX12_shapes_239 : decode cX12_shapes 239 = .ok (.ireturn, 1) := by decide +kernel
theorem dX12_shapes_240 : decode cX12_shapes 240 = .ok (.aload_n 0, 1) := by decide +kernel
theorem dX12_shapes_241 : decode cX12_shapes 241 = .ok (.iconst 2, 1) := by decide +kernel
theorem dX12_shapes_242 : decode cX12_shapes 242 = .ok (.aload_n 0, 1) := by decide +kernel
theorem dX12_shapes_243 : decode cX12_shapes 243 = .ok (.getfield 276, 3) := by decide +kernel
theorem dX12_shapes_246 : decode cX12_shapes 246 = .ok (.invokevirtual 431, 3) := by decide +kernel
theorem dX12_shapes_249 : decode cX12_shapes 249 = .ok (.ireturn, 1) := by decide +kernel
theorem dX12_shapes_250 : decode cX12_shapes 250 = .ok (.aload_n 0, 1) := by decide +kernel
theorem dX12_shapes_251 : decode cX12_shapes 251 = .ok (.iconst 3, 1) := by decide +kernel
theorem dX12_shapes_252 : decode cX12_shapes 252 = .ok (.iconst 3, 1) := by decide +kernel
theorem dX12_shapes_253 : decode cX12_shapes 253 = .ok (.invokevirtual 428, 3) := by decide +kernel
theorem dX12_shapes_256 : decode cX12_shapes 256 = .ok (.ireturn, 1) := by decide +kernel
theorem dX12_shapes_257 : decode cX12_shapes 257 = .ok (.aload_n 0, 1) := by decide +kernel
theorem dX12_shapes_258 : decode cX12_shapes 258 = .ok (.dup, 1) := by decide +kernel
theorem dX12_shapes_259 : decode cX12_shapes 259 = .ok (.getfield 338, 3) := by decide +kernel
theorem dX12_shapes_262 : decode cX12_shapes 262 = .ok (.iconst 2, 1) := by decide +kernel
theorem dX12_shapes_263 : decode cX12_shapes 263 = .ok (.isub, 1) := by decide +kernel
theorem dX12_shapes_264 : decode cX12_shapes 264 = .ok (.putfield 338, 3) := by decide +kernel
theorem dX12_shapes_267 : decode cX12_shapes 267 = .ok (.aload_n 0, 1) := by decide +kernel
theorem dX12_shapes_268 : decode cX12_shapes 268 = .ok (.iconst 2, 1) := by decide +kernel
theorem dX12_shapes_269 : decode cX12_shapes 269 = .ok (.invokevirtual 279, 3) := by decide +kernel
theorem dX12_shapes_272 : decode cX12_shapes 272 = .ok (.pop, 1) := by decide +kernel
theorem dX12_shapes_273 : decode cX12_shapes 273 = .ok (.aload_n 0, 1) := by decide +kernel
theorem dX12_shapes_274 : decode cX12_shapes 274 = .ok (.aload_n 0, 1) := by decide +kernel
theorem dX12_shapes_275 : decode cX12_shapes 275 = .ok (.getfield 212, 3) := by decide +kernel
theorem dX12_shapes_278 : decode cX12_shapes 278 = .ok (.aload_n 0, 1) := by decide +kernel
theorem dX12_shapes_279 : decode cX12_shapes 279 = .ok (.getfield 338, 3) := by decide +kernel
theorem dX12_shapes_282 : decode cX12_shapes 282 = .ok (.iaload, 1) := by decide +kernel
theorem dX12_shapes_283 : decode cX12_shapes 283 = .ok (.invokevirtual 279, 3) := by decide +kernel
theorem dX12_shapes_286 : decode cX12_shapes 286 = .ok (.pop, 1) := by decide +kernel
theorem dX12_shapes_287 : decode cX12_shapes 287 = .ok (.aload_n 0, 1) := by decide +kernel
theorem dX12_shapes_288 : decode cX12_shapes 288 = .ok (.getfield 184, 3) := by decide +kernel
theorem dX12_shapes_291 : decode cX12_shapes 291 = .ok (.iload 5, 2) := by decide +kernel
theorem dX12_shapes_293 : decode cX12_shapes 293 = .ok (.aload_n 0, 1) := by decide +kernel
theorem dX12_shapes_294 : decode cX12_shapes 294 = .ok (.getfield 276, 3) := by decide +kernel
theorem dX12_shapes_297 : decode cX12_shapes 297 = .ok (.iastore, 1) := by decide +kernel
theorem dX12_shapes_298 : decode cX12_shapes 298 = .ok (.iconst 0, 1) := by decide +kernel
theorem dX12_shapes_299 : decode cX12_shapes 299 = .ok (.ireturn, 1) := by decide +kernel
theorem dX12_shapes_300 : decode cX12_shapes 300 = .ok (.aload_n 0, 1) := by decide +kernel
theorem dX12_shapes_301 : decode cX12_shapes 301 = .ok (.iconst 4, 1) := by decide +kernel
theorem dX12_shapes_302 : decode cX12_shapes 302 = .ok (.invokevirtual 279, 3) := by decide +kernel
theorem dX12_shapes_305 : decode cX12_shapes 305 = .ok (.pop, 1) := by decide +kernel
theorem dX12_shapes_306 : decode cX12_shapes 306 = .ok (.aload_n 0, 1) := by decide +kernel
theorem dX12_shapes_307 : decode cX12_shapes 307 = .ok (.iconst 4, 1) := by decide +kernel
theorem dX12_shapes_308 : decode cX12_shapes 308 = .ok (.aload_n 0, 1) := by decide +kernel
theorem dX12_shapes_309 : decode cX12_shapes 309 = .ok (.getfield 276, 3) := by decide +kernel
theorem dX12_shapes_312 : decode cX12_shapes 312 = .ok (.invokevirtual 431, 3) := by decide +kernel
theorem dX12_shapes_315 : decode cX12_shapes 315 = .ok (.ireturn, 1) := by decide +kernel
theorem dX12_shapes_316 : decode cX12_shapes 316 = .ok (.aload_n 0, 1) := by decide +kernel
theorem dX12_shapes_317 : decode cX12_shapes 317 = .ok (.dup, 1) := by decide +kernel
theorem dX12_shapes_318 : decode cX12_shapes 318 = .ok (.getfield 338, 3) := by decide +kernel
theorem dX12_shapes_321 : decode cX12_shapes 321 = .ok (.iconst 1, 1) := by decide +kernel
theorem dX12_shapes_322 : decode cX12_shapes 322 = .ok (.isub, 1) := by decide +kernel
theorem dX12_shapes_323 : decode cX12_shapes 323 = .ok (.putfield 338, 3) := by decide +kernel
theorem dX12_shapes_326 : decode cX12_shapes 326 = .ok (.aload_n 0, 1) := by decide +kernel
theorem dX12_shapes_327 : decode cX12_shapes 327 = .ok (.iload_n 1, 1) := by decide +kernel
theorem dX12_shapes_328 : decode cX12_shapes 328 = .ok (.bipush 73, 2) := by decide +kernel
theorem dX12_shapes_330 : decode cX12_shapes 330 = .ok (.if_icmp .ne 7, 3) := by decide +kernel
theorem dX12_shapes_333 : decode cX12_shapes 333 = .ok (.iconst 3, 1) := by decide +kernel
theorem dX12_shapes_334 : decode cX12_shapes 334 = .ok (.goto 15, 3) := by decide +kernel
theorem dX12_shapes_337 : decode cX12_shapes 337 = .ok (.iload_n 1, 1) := by decide +kernel
theorem dX12_shapes_338 : decode cX12_shapes 338 = .ok (.bipush 77, 2) := by decide +kernel
theorem dX12_shapes_340 : decode cX12_shapes 340 = .ok (.if_icmp .ne 7, 3) := by decide +kernel
theorem dX12_shapes_343 : decode cX12_shapes 343 = .ok (.iconst 5, 1) := by decide +kernel
theorem dX12_shapes_344 : decode cX12_shapes 344 = .ok (.goto 5, 3) := by decide +kernel
theorem dX12_shapes_347 : decode cX12_shapes 347 = .ok (.bipush 6, 2) := by decide +kernel
theorem dX12_shapes_349 : decode cX12_shapes 349 = .ok (.invokevirtual 279, 3) := by decide +kernel
theorem dX12_shapes_352 : decode cX12_shapes 352 = .ok (.pop, 1) := by decide +kernel
theorem dX12_shapes_353 : decode cX12_shapes 353 = .ok (.aload_n 0, 1) := by decide +kernel
theorem dX12_shapes_354 : decode cX12_shapes 354 = .ok (.iload 5, 2) := by decide +kernel
theorem dX12_shapes_356 : decode cX12_shapes 356 = .ok (.invokevirtual 279, 3) := by decide +kernel
theorem dX12_shapes_359 : decode cX12_shapes 359 = .ok (.ireturn, 1) := by decide +kernel
theorem dX12_hole_0 : decode cX12_hole 0 = .ok (.aload_n 0, 1) := by decide +kernel
theorem dX12_hole_1 : decode cX12_hole 1 = .ok (.iload_n 1, 1) := by decide +kernel
theorem dX12_hole_2 : decode cX12_hole 2 = .ok (.invokevirtual 279, 3) := by decide +kernel
theorem dX12_hole_5 : decode cX12_hole 5 = .ok (.pop, 1) := by decide +kernel
theorem dX12_hole_6 : decode cX12_hole 6 = .ok (.aload_n 0, 1) := by decide +kernel
theorem dX12_hole_7 : decode cX12_hole 7 = .ok (.iconst 0, 1) := by decide +kernel
theorem dX12_hole_8 : decode cX12_hole 8 = .ok (.invokevirtual 279, 3) := by decide +kernel
theorem dX12_hole_11 : decode cX12_hole 11 = .ok (.pop, 1) := by decide +kernel
theorem dX12_hole_12 : decode cX12_hole 12 = .ok (.aload_n 0, 1) := by decide +kernel
theorem dX12_hole_13 : decode cX12_hole 13 = .ok (.iload_n 2, 1) := by decide +kernel
theorem dX12_hole_14 : decode cX12_hole 14 = .ok (.aload_n 0, 1) := by decide +kernel
theorem dX12_hole_15 : decode cX12_hole 15 = .ok (.getfield 276, 3) := by decide +kernel
theorem dX12_hole_18 : decode cX12_hole 18 = .ok (.iconst 1, 1) := by decide +kernel
theorem dX12_hole_19 : decode cX12_hole 19 = .ok (.isub, 1) := by decide +kernel
theorem dX12_hole_20 : decode cX12_hole 20 = .ok (.invokevirtual 431, 3) := by decide +kernel
theorem dX12_hole_23 : decode cX12_hole 23 = .ok (.ireturn, 1) := by decide +kernel
theorem dX12_rest_0 : decode cX12_rest 0 = .ok (.iload_n 1, 1) := by decide +kernel
theorem dX12_rest_1 : decode cX12_rest 1 = .ok (.bipush 81, 2) := by decide +kernel
theorem dX12_rest_3 : decode cX12_rest 3 = .ok (.if_icmp .ne 64, 3) := by decide +kernel
theorem dX12_rest_6 : decode cX12_rest 6 = .ok (.aload_n 0, 1) := by decide +kernel
theorem dX12_rest_7 : decode cX12_rest 7 = .ok (.getfield 222, 3) := by decide +kernel
theorem dX12_rest_10 : decode cX12_rest 10 = .ok (.aload_n 0, 1) := by decide +kernel
theorem dX12_rest_11 : decode cX12_rest 11 = .ok (.getfield 219, 3) := by decide +kernel
theorem dX12_rest_14 : decode cX12_rest 14 = .ok (.if_icmp .ge 30, 3) := by decide +kernel
theorem dX12_rest_17 : decode cX12_rest 17 = .ok (.aload_n 0, 1) := by decide +kernel
theorem dX12_rest_18 : decode cX12_rest 18 = .ok (.getfield 162, 3) := by decide +kernel
theorem dX12_rest_21 : decode cX12_rest 21 = .ok (.aload_n 0, 1) := by decide +kernel
theorem dX12_rest_22 : decode cX12_rest 22 = .ok (.getfield 222, 3) := by decide +kernel
theorem dX12_rest_25 : decode cX12_rest 25 = .ok (.iaload, 1) := by decide +kernel
theorem dX12_rest_26 : decode cX12_rest 26 = .ok (.bipush 41, 2) := by decide +kernel
theorem dX12_rest_28 : decode cX12_rest 28 = .ok (.if_icmp .eq 16, 3) := by decide +kernel
theorem dX12_rest_31 : decode cX12_rest 31 = .ok (.aload_n 0, 1) := by decide +kernel
theorem dX12_rest_32 : decode cX12_rest 32 = .ok (.dup, 1) := by decide +kernel
theorem dX12_rest_33 : decode cX12_rest 33 = .ok (.getfield 222, 3) := by decide +kernel
theorem dX12_rest_36 : decode cX12_rest 36 = .ok (.iconst 1, 1) := by decide +kernel
theorem dX12_rest_37 : decode cX12_rest 37 = .ok (.iadd, 1) := by decide +kernel
theorem dX12_rest_38 : decode cX12_rest 38 = .ok (.putfield 222, 3) := by decide +kernel
theorem dX12_rest_41 : decode cX12_rest 41 = .ok (.goto (-35), 3) := by decide +kernel
theorem dX12_rest_44 : decode cX12_rest 44 = .ok (.aload_n 0, 1) := by decide +kernel
theorem dX12_rest_45 : decode cX12_rest 45 = .ok (.getfield 222, 3) := by decide +kernel
theorem dX12_rest_48 : decode cX12_rest 48 = .ok (.aload_n 0, 1) := by decide +kernel
theorem dX12_rest_49 : decode cX12_rest 49 = .ok (.getfield 219, 3) := by decide +kernel
theorem dX12_rest_52 : decode cX12_rest 52 = .ok (.if_icmp .ge 13, 3) := by decide +kernel
theorem dX12_rest_55 : decode cX12_rest 55 = .ok (.aload_n 0, 1) := by decide +kernel
theorem dX12_rest_56 : decode cX12_rest 56 = .ok (.dup, 1) := by decide +kernel
theorem dX12_rest_57 : decode cX12_rest 57 = .ok (.getfield 222, 3) := by decide +kernel
theorem dX12_rest_60 : decode cX12_rest 60 = .ok (.iconst 1, 1) := by decide +kernel
theorem dX12_rest_61 : decode cX12_rest 61 = .ok (.iadd, 1) := by decide +kernel
theorem dX12_rest_62 : decode cX12_rest 62 = .ok (.putfield 222, 3) := by decide +kernel
theorem dX12_rest_65 : decode cX12_rest 65 = .ok (.iconst 0, 1) := by decide +kernel
theorem dX12_rest_66 : decode cX12_rest 66 = .ok (.ireturn, 1) := by decide +kernel
theorem dX12_rest_67 : decode cX12_rest 67 = .ok (.aload_n 0, 1) := by decide +kernel
theorem dX12_rest_68 : decode cX12_rest 68 = .ok (.getfield 169, 3) := by decide +kernel
theorem dX12_rest_71 : decode cX12_rest 71 = .ok (.aload_n 0, 1) := by decide +kernel
theorem dX12_rest_72 : decode cX12_rest 72 = .ok (.getfield 293, 3) := by decide +kernel
theorem dX12_rest_75 : decode cX12_rest 75 = .ok (.iconst 1, 1) := by decide +kernel
theorem dX12_rest_76 : decode cX12_rest 76 = .ok (.isub, 1) := by decide +kernel
theorem dX12_rest_77 : decode cX12_rest 77 = .ok (.iaload, 1) := by decide +kernel
theorem dX12_rest_78 : decode cX12_rest 78 = .ok (.istore_n 2, 1) := by decide +kernel
theorem dX12_rest_79 : decode cX12_rest 79 = .ok (.iload_n 1, 1) := by decide +kernel
theorem dX12_rest_80 : decode cX12_rest 80 = .ok (.bipush 79, 2) := by decide +kernel
theorem dX12_rest_82 : decode cX12_rest 82 = .ok (.if_icmp .ne 15, 3) := by decide +kernel
theorem dX12_rest_85 : decode cX12_rest 85 = .ok (.aload_n 0, 1) := by decide +kernel
theorem dX12_rest_86 : decode cX12_rest 86 = .ok (.dup, 1) := by decide +kernel
theorem dX12_rest_87 : decode cX12_rest 87 = .ok (.getfield 293, 3) := by decide +kernel
theorem dX12_rest_90 : decode cX12_rest 90 = .ok (.iconst 1, 1) := by decide +kernel
theorem dX12_rest_91 : decode cX12_rest 91 = .ok (.isub, 1) := by decide +kernel
theorem dX12_rest_92 : decode cX12_rest 92 = .ok (.putfield 293, 3) := by decide +kernel
theorem dX12_rest_95 : decode cX12_rest 95 = .ok (.iload_n 2, 1) := by decide +kernel
theorem dX12_rest_96 : decode cX12_rest 96 = .ok (.ireturn, 1) := by decide +kernel
theorem dX12_rest_97 : decode cX12_rest 97 = .ok (.aload_n 0, 1) := by decide +kernel
theorem dX12_rest_98 : decode cX12_rest 98 = .ok (.iload_n 2, 1) := by decide +kernel
theorem dX12_rest_99 : decode cX12_rest 99 = .ok (.invokevirtual 323, 3) := by decide +kernel
theorem dX12_rest_102 : decode cX12_rest 102 = .ok (.ifCond .ne 6, 3) := by decide +kernel
theorem dX12_rest_105 : decode cX12_rest 105 = .ok (.bipush (-9), 2) := by decide +kernel
theorem dX12_rest_107 : decode cX12_rest 107 = .ok (.ireturn, 1) := by decide +kernel
theorem dX12_rest_108 : decode cX12_rest 108 = .ok (.aload_n 0, 1) := by decide +kernel
theorem dX12_rest_109 : decode cX12_rest 109 = .ok (.getfield 311, 3) := by decide +kernel
theorem dX12_rest_112 : decode cX12_rest 112 = .ok (.bipush 30, 2) := by decide +kernel
theorem dX12_rest_114 : decode cX12_rest 114 = .ok (.if_icmp .ne 6, 3) := by decide +kernel
theorem dX12_rest_117 : decode cX12_rest 117 = .ok (.bipush (-5), 2) := by decide +kernel
theorem dX12_rest_119 : decode cX12_rest 119 = .ok (.ireturn, 1) := by decide +kernel
theorem dX12_rest_120 : decode cX12_rest 120 = .ok (.aload_n 0, 1) := by decide +kernel
theorem dX12_rest_121 : decode cX12_rest 121 = .ok (.dup, 1) := by decide +kernel
theorem dX12_rest_122 : decode cX12_rest 122 = .ok (.getfield 293, 3) := by decide +kernel
theorem dX12_rest_125 : decode cX12_rest 125 = .ok (.iconst 1, 1) := by decide +kernel
theorem dX12_rest_126 : decode cX12_rest 126 = .ok (.isub, 1) := by decide +kernel
theorem dX12_rest_127 : decode cX12_rest 127 = .ok (.putfield 293, 3) := by decide +kernel
theorem dX12_rest_130 : decode cX12_rest 130 = .ok (.aload_n 0, 1) := by decide +kernel
theorem dX12_rest_131 : decode cX12_rest 131 = .ok (.iconst 0, 1) := by decide +kernel
theorem dX12_rest_132 : decode cX12_rest 132 = .ok (.aload_n 0, 1) := by decide +kernel
theorem dX12_rest_133 : decode cX12_rest 133 = .ok (.getfield 293, 3) := by decide +kernel
theorem dX12_rest_136 : decode cX12_rest 136 = .ok (.aload_n 0, 1) := by decide +kernel
theorem dX12_rest_137 : decode cX12_rest 137 = .ok (.getfield 335, 3) := by decide +kernel
theorem dX12_rest_140 : decode cX12_rest 140 = .ok (.invokevirtual 386, 3) := by decide +kernel
theorem dX12_rest_143 : decode cX12_rest 143 = .ok (.pop, 1) := by decide +kernel
theorem dX12_rest_144 : decode cX12_rest 144 = .ok (.aload_n 0, 1) := by decide +kernel
theorem dX12_rest_145 : decode cX12_rest 145 = .ok (.iload_n 2, 1) := by decide +kernel
theorem dX12_rest_146 : decode cX12_rest 146 = .ok (.putfield 326, 3) := by decide +kernel
theorem dX12_rest_149 : decode cX12_rest 149 = .ok (.iconst 0, 1) := by decide +kernel
theorem dX12_rest_150 : decode cX12_rest 150 = .ok (.ireturn, 1) := by decide +kernel
theorem dX12_shown_0 : decode cX12_shown 0 = .ok (.aload_n 0, 1) := by decide +kernel
theorem dX12_shown_1 : decode cX12_shown 1 = .ok (.iload_n 1, 1) := by decide +kernel
theorem dX12_shown_2 : decode cX12_shown 2 = .ok (.ifCond .eq 7, 3) := by decide +kernel
theorem dX12_shown_5 : decode cX12_shown 5 = .ok (.iconst 0, 1) := by decide +kernel
theorem dX12_shown_6 : decode cX12_shown 6 = .ok (.goto 4, 3) := by decide +kernel
theorem dX12_shown_9 : decode cX12_shown 9 = .ok (.iconst 1, 1) := by decide +kernel
theorem dX12_shown_10 : decode cX12_shown 10 = .ok (.putfield 215, 3) := by decide +kernel
theorem dX12_shown_13 : decode cX12_shown 13 = .ok (.iload_n 1, 1) := by decide +kernel
theorem dX12_shown_14 : decode cX12_shown 14 = .ok (.ifCond .eq 7, 3) := by decide +kernel
theorem dX12_shown_17 : decode cX12_shown 17 = .ok (.iload_n 2, 1) := by decide +kernel
theorem dX12_shown_18 : decode cX12_shown 18 = .ok (.goto 4, 3) := by decide +kernel
theorem dX12_shown_21 : decode cX12_shown 21 = .ok (.iconst 0, 1) := by decide +kernel
theorem dX12_shown_22 : decode cX12_shown 22 = .ok (.ireturn, 1) := by decide +kernel
theorem dX12_output_0 : decode cX12_output 0 = .ok (.iload_n 1, 1) := by decide +kernel
theorem dX12_output_1 : decode cX12_output 1 = .ok (.ifCond .lt 15, 3) := by decide +kernel
theorem dX12_output_4 : decode cX12_output 4 = .ok (.iload_n 1, 1) := by decide +kernel
theorem dX12_output_5 : decode cX12_output 5 = .ok (.aload_n 0, 1) := by decide +kernel
theorem dX12_output_6 : decode cX12_output 6 = .ok (.getfield 308, 3) := by decide +kernel
theorem dX12_output_9 : decode cX12_output 9 = .ok (.if_icmp .ge 7, 3) := by decide +kernel
theorem dX12_output_12 : decode cX12_output 12 = .ok (.iconst 1, 1) := by decide +kernel
theorem dX12_output_13 : decode cX12_output 13 = .ok (.goto 4, 3) := by decide +kernel
theorem dX12_output_16 : decode cX12_output 16 = .ok (.iconst 0, 1) := by decide +kernel
theorem dX12_output_17 : decode cX12_output 17 = .ok (.istore_n 2, 1) := by decide +kernel
theorem dX12_output_18 : decode cX12_output 18 = .ok (.aload_n 0, 1) := by decide +kernel
theorem dX12_output_19 : decode cX12_output 19 = .ok (.iload_n 2, 1) := by decide +kernel
theorem dX12_output_20 : decode cX12_output 20 = .ok (.iload_n 2, 1) := by decide +kernel
theorem dX12_output_21 : decode cX12_output 21 = .ok (.ifCond .eq 12, 3) := by decide +kernel
theorem dX12_output_24 : decode cX12_output 24 = .ok (.aload_n 0, 1) := by decide +kernel
theorem dX12_output_25 : decode cX12_output 25 = .ok (.getfield 166, 3) := by decide +kernel
theorem dX12_output_28 : decode cX12_output 28 = .ok (.iload_n 1, 1) := by decide +kernel
theorem dX12_output_29 : decode cX12_output 29 = .ok (.iaload, 1) := by decide +kernel
theorem dX12_output_30 : decode cX12_output 30 = .ok (.goto 4, 3) := by decide +kernel
theorem dX12_output_33 : decode cX12_output 33 = .ok (.iconst 0, 1) := by decide +kernel
theorem dX12_output_34 : decode cX12_output 34 = .ok (.invokevirtual 434, 3) := by decide +kernel
theorem dX12_output_37 : decode cX12_output 37 = .ok (.i2c, 1) := by decide +kernel
theorem dX12_output_38 : decode cX12_output 38 = .ok (.ireturn, 1) := by decide +kernel
theorem dX12_stack_0 : decode cX12_stack 0 = .ok (.iload_n 1, 1) := by decide +kernel
theorem dX12_stack_1 : decode cX12_stack 1 = .ok (.ifCond .lt 15, 3) := by decide +kernel
theorem dX12_stack_4 : decode cX12_stack 4 = .ok (.iload_n 1, 1) := by decide +kernel
theorem dX12_stack_5 : decode cX12_stack 5 = .ok (.aload_n 0, 1) := by decide +kernel
theorem dX12_stack_6 : decode cX12_stack 6 = .ok (.getfield 293, 3) := by decide +kernel
theorem dX12_stack_9 : decode cX12_stack 9 = .ok (.if_icmp .ge 7, 3) := by decide +kernel
theorem dX12_stack_12 : decode cX12_stack 12 = .ok (.iconst 1, 1) := by decide +kernel
theorem dX12_stack_13 : decode cX12_stack 13 = .ok (.goto 4, 3) := by decide +kernel
theorem dX12_stack_16 : decode cX12_stack 16 = .ok (.iconst 0, 1) := by decide +kernel
theorem dX12_stack_17 : decode cX12_stack 17 = .ok (.istore_n 2, 1) := by decide +kernel
theorem dX12_stack_18 : decode cX12_stack 18 = .ok (.aload_n 0, 1) := by decide +kernel
theorem dX12_stack_19 : decode cX12_stack 19 = .ok (.iload_n 2, 1) := by decide +kernel
theorem dX12_stack_20 : decode cX12_stack 20 = .ok (.iload_n 2, 1) := by decide +kernel
theorem dX12_stack_21 : decode cX12_stack 21 = .ok (.ifCond .eq 12, 3) := by decide +kernel
theorem dX12_stack_24 : decode cX12_stack 24 = .ok (.aload_n 0, 1) := by decide +kernel
theorem dX12_stack_25 : decode cX12_stack 25 = .ok (.getfield 169, 3) := by decide +kernel
theorem dX12_stack_28 : decode cX12_stack 28 = .ok (.iload_n 1, 1) := by decide +kernel
theorem dX12_stack_29 : decode cX12_stack 29 = .ok (.iaload, 1) := by decide +kernel
theorem dX12_stack_30 : decode cX12_stack 30 = .ok (.goto 4, 3) := by decide +kernel
theorem dX12_stack_33 : decode cX12_stack 33 = .ok (.iconst 0, 1) := by decide +kernel
theorem dX12_stack_34 : decode cX12_stack 34 = .ok (.invokevirtual 434, 3) := by decide +kernel
theorem dX12_stack_37 : decode cX12_stack 37 = .ok (.ireturn, 1) := by decide +kernel
theorem dX12_cell_0 : decode cX12_cell 0 = .ok (.iload_n 1, 1) := by decide +kernel
theorem dX12_cell_1 : decode cX12_cell 1 = .ok (.ifCond .lt 14, 3) := by decide +kernel
theorem dX12_cell_4 : decode cX12_cell 4 = .ok (.iload_n 1, 1) := by decide +kernel
theorem dX12_cell_5 : decode cX12_cell 5 = .ok (.sipush 400, 3) := by decide +kernel
theorem dX12_cell_8 : decode cX12_cell 8 = .ok (.if_icmp .ge 7, 3) := by decide +kernel
theorem dX12_cell_11 : decode cX12_cell 11 = .ok (.iconst 1, 1) := by decide +kernel
theorem dX12_cell_12 : decode cX12_cell 12 = .ok (.goto 4, 3) := by decide +kernel
theorem dX12_cell_15 : decode cX12_cell 15 = .ok (.iconst 0, 1) := by decide +kernel
theorem dX12_cell_16 : decode cX12_cell 16 = .ok (.istore_n 2, 1) := by decide +kernel
theorem dX12_cell_17 : decode cX12_cell 17 = .ok (.aload_n 0, 1) := by decide +kernel
theorem dX12_cell_18 : decode cX12_cell 18 = .ok (.iload_n 2, 1) := by decide +kernel
theorem dX12_cell_19 : decode cX12_cell 19 = .ok (.iload_n 2, 1) := by decide +kernel
theorem dX12_cell_20 : decode cX12_cell 20 = .ok (.ifCond .eq 12, 3) := by decide +kernel
theorem dX12_cell_23 : decode cX12_cell 23 = .ok (.aload_n 0, 1) := by decide +kernel
theorem dX12_cell_24 : decode cX12_cell 24 = .ok (.getfield 184, 3) := by decide +kernel
theorem dX12_cell_27 : decode cX12_cell 27 = .ok (.iload_n 1, 1) := by decide +kernel
theorem dX12_cell_28 : decode cX12_cell 28 = .ok (.iaload, 1) := by decide +kernel
theorem dX12_cell_29 : decode cX12_cell 29 = .ok (.goto 4, 3) := by decide +kernel
theorem dX12_cell_32 : decode cX12_cell 32 = .ok (.iconst 0, 1) := by decide +kernel
theorem dX12_cell_33 : decode cX12_cell 33 = .ok (.invokevirtual 434, 3) := by decide +kernel
theorem dX12_cell_36 : decode cX12_cell 36 = .ok (.ireturn, 1) := by decide +kernel
theorem dX12_word_0 : decode cX12_word 0 = .ok (.aload_n 0, 1) := by decide +kernel
theorem dX12_word_1 : decode cX12_word 1 = .ok (.iload_n 1, 1) := by decide +kernel
theorem dX12_word_2 : decode cX12_word 2 = .ok (.ifCond .lt 11, 3) := by decide +kernel
theorem dX12_word_5 : decode cX12_word 5 = .ok (.iload_n 1, 1) := by decide +kernel
theorem dX12_word_6 : decode cX12_word 6 = .ok (.aload_n 0, 1) := by decide +kernel
theorem dX12_word_7 : decode cX12_word 7 = .ok (.getfield 239, 3) := by decide +kernel
theorem dX12_word_10 : decode cX12_word 10 = .ok (.if_icmp .lt 7, 3) := by decide +kernel
theorem dX12_word_13 : decode cX12_word 13 = .ok (.iconst 1, 1) := by decide +kernel
theorem dX12_word_14 : decode cX12_word 14 = .ok (.goto 17, 3) := by decide +kernel
theorem dX12_word_17 : decode cX12_word 17 = .ok (.iload_n 2, 1) := by decide +kernel
theorem dX12_word_18 : decode cX12_word 18 = .ok (.ifCond .lt 8, 3) := by decide +kernel
theorem dX12_word_21 : decode cX12_word 21 = .ok (.iload_n 2, 1) := by decide +kernel
theorem dX12_word_22 : decode cX12_word 22 = .ok (.iconst 4, 1) := by decide +kernel
theorem dX12_word_23 : decode cX12_word 23 = .ok (.if_icmp .le 7, 3) := by decide +kernel
theorem dX12_word_26 : decode cX12_word 26 = .ok (.iconst 2, 1) := by decide +kernel
theorem dX12_word_27 : decode cX12_word 27 = .ok (.goto 4, 3) := by decide +kernel
theorem dX12_word_30 : decode cX12_word 30 = .ok (.iconst 0, 1) := by decide +kernel
theorem dX12_word_31 : decode cX12_word 31 = .ok (.putfield 215, 3) := by decide +kernel
theorem dX12_word_34 : decode cX12_word 34 = .ok (.aload_n 0, 1) := by decide +kernel
theorem dX12_word_35 : decode cX12_word 35 = .ok (.getfield 215, 3) := by decide +kernel
theorem dX12_word_38 : decode cX12_word 38 = .ok (.ifCond .le 5, 3) := by decide +kernel
theorem dX12_word_41 : decode cX12_word 41 = .ok (.iconst 0, 1) := by decide +kernel
theorem dX12_word_42 : decode cX12_word 42 = .ok (.ireturn, 1) := by decide +kernel
theorem dX12_word_43 : decode cX12_word 43 = .ok (.iload_n 2, 1) := by decide +kernel
theorem dX12_word_44 : decode cX12_word 44 = .ok (.tableswitch 68 0 3 #[32, 39, 46, 61], 32) := by decide +kernel
theorem dX12_word_76 : decode cX12_word 76 = .ok (.aload_n 0, 1) := by decide +kernel
theorem dX12_word_77 : decode cX12_word 77 = .ok (.getfield 187, 3) := by decide +kernel
theorem dX12_word_80 : decode cX12_word 80 = .ok (.iload_n 1, 1) := by decide +kernel
theorem dX12_word_81 : decode cX12_word 81 = .ok (.iaload, 1) := by decide +kernel
theorem dX12_word_82 : decode cX12_word 82 = .ok (.ireturn, 1) := by decide +kernel
theorem dX12_word_83 : decode cX12_word 83 = .ok (.aload_n 0, 1) := by decide +kernel
theorem dX12_word_84 : decode cX12_word 84 = .ok (.getfield 190, 3) := by decide +kernel
theorem dX12_word_87 : decode cX12_word 87 = .ok (.iload_n 1, 1) := by decide +kernel
theorem dX12_word_88 : decode cX12_word 88 = .ok (.iaload, 1) := by decide +kernel
theorem dX12_word_89 : decode cX12_word 89 = .ok (.ireturn, 1) := by decide +kernel
theorem dX12_word_90 : decode cX12_word 90 = .ok (.aload_n 0, 1) := by decide +kernel
theorem dX12_word_91 : decode cX12_word 91 = .ok (.getfield 196, 3) := by decide +kernel
theorem dX12_word_94 : decode cX12_word 94 = .ok (.iload_n 1, 1) := by decide +kernel
theorem dX12_word_95 : decode cX12_word 95 = .ok (.baload, 1) := by decide +kernel
theorem dX12_word_96 : decode cX12_word 96 = .ok (.ifCond .eq 7, 3) := by decide +kernel
theorem dX12_word_99 : decode cX12_word 99 = .ok (.iconst 1, 1) := by decide +kernel
theorem dX12_word_100 : decode cX12_word 100 = .ok (.goto 4, 3) := by decide +kernel
theorem dX12_word_103 : decode cX12_word 103 = .ok (.iconst 0, 1) := by decide +kernel
theorem dX12_word_104 : decode cX12_word 104 = .ok (.ireturn, 1) := by decide +kernel
theorem dX12_word_105 : decode cX12_word 105 = .ok (.aload_n 0, 1) := by decide +kernel
theorem dX12_word_106 : decode cX12_word 106 = .ok (.getfield 193, 3) := by decide +kernel
theorem dX12_word_109 : decode cX12_word 109 = .ok (.iload_n 1, 1) := by decide +kernel
theorem dX12_word_110 : decode cX12_word 110 = .ok (.iaload, 1) := by decide +kernel
theorem dX12_word_111 : decode cX12_word 111 = .ok (.ireturn, 1) := by decide +kernel
theorem dX12_word_112 : decode cX12_word 112 = .ok (.aload_n 0, 1) := by decide +kernel
theorem dX12_word_113 : decode cX12_word 113 = .ok (.getfield 200, 3) := by decide +kernel
theorem dX12_word_116 : decode cX12_word 116 = .ok (.iload_n 1, 1) := by decide +kernel
theorem dX12_word_117 : decode cX12_word 117 = .ok (.baload, 1) := by decide +kernel
theorem dX12_word_118 : decode cX12_word 118 = .ok (.ifCond .eq 7, 3) := by decide +kernel
theorem dX12_word_121 : decode cX12_word 121 = .ok (.iconst 1, 1) := by decide +kernel
theorem dX12_word_122 : decode cX12_word 122 = .ok (.goto 4, 3) := by decide +kernel
theorem dX12_word_125 : decode cX12_word 125 = .ok (.iconst 0, 1) := by decide +kernel
theorem dX12_word_126 : decode cX12_word 126 = .ok (.ireturn, 1) := by decide +kernel
theorem dX12_count_0 : decode cX12_count 0 = .ok (.aload_n 0, 1) := by decide +kernel
theorem dX12_count_1 : decode cX12_count 1 = .ok (.iconst 0, 1) := by decide +kernel
theorem dX12_count_2 : decode cX12_count 2 = .ok (.putfield 215, 3) := by decide +kernel
theorem dX12_count_5 : decode cX12_count 5 = .ok (.iload_n 1, 1) := by decide +kernel
theorem dX12_count_6 : decode cX12_count 6 = .ok (.tableswitch 103 0 8 #[50, 55, 60, 65, 70, 75, 88, 93, 98], 50) := by decide +kernel
theorem dX12_count_56 : decode cX12_count 56 = .ok (.aload_n 0, 1) := by decide +kernel
theorem dX12_count_57 : decode cX12_count 57 = .ok (.getfield 308, 3) := by decide +kernel
theorem dX12_count_60 : decode cX12_count 60 = .ok (.ireturn, 1) := by decide +kernel
theorem dX12_count_61 : decode cX12_count 61 = .ok (.aload_n 0, 1) := by decide +kernel
theorem dX12_count_62 : decode cX12_count 62 = .ok (.getfield 293, 3) := by decide +kernel
theorem dX12_count_65 : decode cX12_count 65 = .ok (.ireturn, 1) := by decide +kernel
theorem dX12_count_66 : decode cX12_count 66 = .ok (.aload_n 0, 1) := by decide +kernel
theorem dX12_count_67 : decode cX12_count 67 = .ok (.getfield 335, 3) := by decide +kernel
theorem dX12_count_70 : decode cX12_count 70 = .ok (.ireturn, 1) := by decide +kernel
theorem dX12_count_71 : decode cX12_count 71 = .ok (.aload_n 0, 1) := by decide +kernel
theorem dX12_count_72 : decode cX12_count 72 = .ok (.getfield 276, 3) := by decide +kernel
theorem dX12_count_75 : decode cX12_count 75 = .ok (.ireturn, 1) := by decide +kernel
theorem dX12_count_76 : decode cX12_count 76 = .ok (.aload_n 0, 1) := by decide +kernel
theorem dX12_count_77 : decode cX12_count 77 = .ok (.getfield 239, 3) := by decide +kernel
theorem dX12_count_80 : decode cX12_count 80 = .ok (.ireturn, 1) := by decide +kernel
theorem dX12_count_81 : decode cX12_count 81 = .ok (.aload_n 0, 1) := by decide +kernel
theorem dX12_count_82 : decode cX12_count 82 = .ok (.getfield 270, 3) := by decide +kernel
theorem dX12_count_85 : decode cX12_count 85 = .ok (.ifCond .eq 7, 3) := by decide +kernel
theorem dX12_count_88 : decode cX12_count 88 = .ok (.iconst 1, 1) := by decide +kernel
theorem dX12_count_89 : decode cX12_count 89 = .ok (.goto 4, 3) := by decide +kernel
theorem dX12_count_92 : decode cX12_count 92 = .ok (.iconst 0, 1) := by decide +kernel
theorem dX12_count_93 : decode cX12_count 93 = .ok (.ireturn, 1) := by decide +kernel
theorem dX12_count_94 : decode cX12_count 94 = .ok (.aload_n 0, 1) := by decide +kernel
theorem dX12_count_95 : decode cX12_count 95 = .ok (.getfield 302, 3) := by decide +kernel
theorem dX12_count_98 : decode cX12_count 98 = .ok (.ireturn, 1) := by decide +kernel
theorem dX12_count_99 : decode cX12_count 99 = .ok (.aload_n 0, 1) := by decide +kernel
theorem dX12_count_100 : decode cX12_count 100 = .ok (.getfield 305, 3) := by decide +kernel
theorem dX12_count_103 : decode cX12_count 103 = .ok (.ireturn, 1) := by decide +kernel
theorem dX12_count_104 : decode cX12_count 104 = .ok (.aload_n 0, 1) := by decide +kernel
theorem dX12_count_105 : decode cX12_count 105 = .ok (.getfield 338, 3) := by decide +kernel
theorem dX12_count_108 : decode cX12_count 108 = .ok (.ireturn, 1) := by decide +kernel
theorem dX12_count_109 : decode cX12_count 109 = .ok (.iconst (-1), 1) := by decide +kernel
theorem dX12_count_110 : decode cX12_count 110 = .ok (.ireturn, 1) := by decide +kernel
theorem dJx29ce0_ordinal_8abf5_0 : decode cJx29ce0_ordinal_8abf5 0 = .ok (.aload_n 0, 1) := by decide +kernel
theorem dJx29ce0_ordinal_8abf5_1 : decode cJx29ce0_ordinal_8abf5 1 = .ok (.getfield 7, 3) := by decide +kernel
theorem dJx29ce0_ordinal_8abf5_4 : decode cJx29ce0_ordinal_8abf5 4 = .ok (.ireturn, 1) := by decide +kernel
theorem dJ0_length_8abf5_0 : decode cJ0_length_8abf5 0 = .ok (.aload_n 0, 1) := by decide +kernel
theorem dJ0_length_8abf5_1 : decode cJ0_length_8abf5 1 = .ok (.getfield 9, 3) := by decide +kernel
theorem dJ0_length_8abf5_4 : decode cJ0_length_8abf5 4 = .ok (.arraylength, 1) := by decide +kernel
theorem dJ0_length_8abf5_5 : decode cJ0_length_8abf5 5 = .ok (.aload_n 0, 1) := by decide +kernel
theorem dJ0_length_8abf5_6 : decode cJ0_length_8abf5 6 = .ok (.invokevirtual 335, 3) := by decide +kernel
theorem dJ0_length_8abf5_9 : decode cJ0_length_8abf5 9 = .ok (.ishr, 1) := by decide +kernel
theorem dJ0_length_8abf5_10 : decode cJ0_length_8abf5 10 = .ok (.ireturn, 1) := by decide +kernel
theorem dJ0_charAt_5068e_0 : decode cJ0_charAt_5068e 0 = .ok (.aload_n 0, 1) := by decide +kernel
theorem dJ0_charAt_5068e_1 : decode cJ0_charAt_5068e 1 = .ok (.invokevirtual 492, 3) := by decide +kernel
theorem dJ0_charAt_5068e_4 : decode cJ0_charAt_5068e 4 = .ok (.ifCond .eq 12, 3) := by decide +kernel
theorem dJ0_charAt_5068e_7 : decode cJ0_charAt_5068e 7 = .ok (.aload_n 0, 1) := by decide +kernel
theorem dJ0_charAt_5068e_8 : decode cJ0_charAt_5068e 8 = .ok (.getfield 9, 3) := by decide +kernel
theorem dJ0_charAt_5068e_11 : decode cJ0_charAt_5068e 11 = .ok (.iload_n 1, 1) := by decide +kernel
theorem dJ0_charAt_5068e_12 : decode cJ0_charAt_5068e 12 = .ok (.invokestatic 495, 3) := by decide +kernel
theorem dJ0_charAt_5068e_15 : decode cJ0_charAt_5068e 15 = .ok (.ireturn, 1) := by decide +kernel
theorem dJ0_charAt_5068e_16 : decode cJ0_charAt_5068e 16 = .ok (.aload_n 0, 1) := by decide +kernel
theorem dJ0_charAt_5068e_17 : decode cJ0_charAt_5068e 17 = .ok (.getfield 9, 3) := by decide +kernel
theorem dJ0_charAt_5068e_20 : decode cJ0_charAt_5068e 20 = .ok (.iload_n 1, 1) := by decide +kernel
theorem dJ0_charAt_5068e_21 : decode cJ0_charAt_5068e 21 = .ok (.invokestatic 498, 3) := by decide +kernel
theorem dJ0_charAt_5068e_24 : decode cJ0_charAt_5068e 24 = .ok (.ireturn, 1) := by decide +kernel
theorem dJ0_coder_7d493_0 : decode cJ0_coder_7d493 0 = .ok (.getstatic 38, 3) := by decide +kernel
theorem dJ0_coder_7d493_3 : decode cJ0_coder_7d493 3 = .ok (.ifCond .eq 10, 3) := by decide +kernel
theorem dJ0_coder_7d493_6 : decode cJ0_coder_7d493 6 = .ok (.aload_n 0, 1) := by decide +kernel
theorem dJ0_coder_7d493_7 : decode cJ0_coder_7d493 7 = .ok (.getfield 15, 3) := by decide +kernel
theorem dJ0_coder_7d493_10 : decode cJ0_coder_7d493 10 = .ok (.goto 4, 3) := by decide +kernel
theorem dJ0_coder_7d493_13 : decode cJ0_coder_7d493 13 = .ok (.iconst 1, 1) := by decide +kernel
theorem dJ0_coder_7d493_14 : decode cJ0_coder_7d493 14 = .ok (.ireturn, 1) := by decide +kernel
theorem dJ0_isLatin1_aae02_0 : decode cJ0_isLatin1_aae02 0 = .ok (.getstatic 38, 3) := by decide +kernel
theorem dJ0_isLatin1_aae02_3 : decode cJ0_isLatin1_aae02 3 = .ok (.ifCond .eq 14, 3) := by decide +kernel
theorem dJ0_isLatin1_aae02_6 : decode cJ0_isLatin1_aae02 6 = .ok (.aload_n 0, 1) := by decide +kernel
theorem dJ0_isLatin1_aae02_7 : decode cJ0_isLatin1_aae02 7 = .ok (.getfield 15, 3) := by decide +kernel
theorem dJ0_isLatin1_aae02_10 : decode cJ0_isLatin1_aae02 10 = .ok (.ifCond .ne 7, 3) := by decide +kernel
theorem dJ0_isLatin1_aae02_13 : decode cJ0_isLatin1_aae02 13 = .ok (.iconst 1, 1) := by decide +kernel
theorem dJ0_isLatin1_aae02_14 : decode cJ0_isLatin1_aae02 14 = .ok (.goto 4, 3) := by decide +kernel
theorem dJ0_isLatin1_aae02_17 : decode cJ0_isLatin1_aae02 17 = .ok (.iconst 0, 1) := by decide +kernel
theorem dJ0_isLatin1_aae02_18 : decode cJ0_isLatin1_aae02 18 = .ok (.ireturn, 1) := by decide +kernel
theorem dJ0_checkIndex_df160_0 : decode cJ0_checkIndex_df160 0 = .ok (.iload_n 0, 1) := by decide +kernel
theorem dJ0_checkIndex_df160_1 : decode cJ0_checkIndex_df160 1 = .ok (.iload_n 1, 1) := by decide +kernel
theorem dJ0_checkIndex_df160_2 : decode cJ0_checkIndex_df160 2 = .ok (.getstatic 1053, 3) := by decide +kernel
theorem dJ0_checkIndex_df160_5 : decode cJ0_checkIndex_df160 5 = .ok (.invokestatic 1059, 3) := by decide +kernel
theorem dJ0_checkIndex_df160_8 : decode cJ0_checkIndex_df160 8 = .ok (.pop, 1) := by decide +kernel
theorem dJ0_checkIndex_df160_9 : decode cJ0_checkIndex_df160 9 = .ok (.return_, 1) := by decide +kernel
theorem dJ1_charAt_3b067_0 : decode cJ1_charAt_3b067 0 = .ok (.iload_n 1, 1) := by decide +kernel
theorem dJ1_charAt_3b067_1 : decode cJ1_charAt_3b067 1 = .ok (.aload_n 0, 1) := by decide +kernel
theorem dJ1_charAt_3b067_2 : decode cJ1_charAt_3b067 2 = .ok (.arraylength, 1) := by decide +kernel
theorem dJ1_charAt_3b067_3 : decode cJ1_charAt_3b067 3 = .ok (.invokestatic 9, 3) := by decide +kernel
theorem dJ1_charAt_3b067_6 : decode cJ1_charAt_3b067 6 = .ok (.aload_n 0, 1) := by decide +kernel
theorem dJ1_charAt_3b067_7 : decode cJ1_charAt_3b067 7 = .ok (.iload_n 1, 1) := by decide +kernel
theorem dJ1_charAt_3b067_8 : decode cJ1_charAt_3b067 8 = .ok (.baload, 1) := by decide +kernel
theorem dJ1_charAt_3b067_9 : decode cJ1_charAt_3b067 9 = .ok (.sipush 255, 3) := by decide +kernel
theorem dJ1_charAt_3b067_12 : decode cJ1_charAt_3b067 12 = .ok (.iand, 1) := by decide +kernel
theorem dJ1_charAt_3b067_13 : decode cJ1_charAt_3b067 13 = .ok (.i2c, 1) := by decide +kernel
theorem dJ1_charAt_3b067_14 : decode cJ1_charAt_3b067 14 = .ok (.ireturn, 1) := by decide +kernel
theorem dJ2_getChar_3b067_0 : decode cJ2_getChar_3b067 0 = .ok (.getstatic 44, 3) := by decide +kernel
theorem dJ2_getChar_3b067_3 : decode cJ2_getChar_3b067 3 = .ok (.ifCond .ne 25, 3) := by decide +kernel
theorem dJ2_getChar_3b067_6 : decode cJ2_getChar_3b067 6 = .ok (.iload_n 1, 1) := by decide +kernel
theorem dJ2_getChar_3b067_7 : decode cJ2_getChar_3b067 7 = .ok (.ifCond .lt 11, 3) := by decide +kernel
theorem dJ2_getChar_3b067_10 : decode cJ2_getChar_3b067 10 = .ok (.iload_n 1, 1) := by decide +kernel
theorem dJ2_getChar_3b067_11 : decode cJ2_getChar_3b067 11 = .ok (.aload_n 0, 1) := by decide +kernel
theorem dJ2_getChar_3b067_12 : decode cJ2_getChar_3b067 12 = .ok (.invokestatic 48, 3) := by decide +kernel
theorem dJ2_getChar_3b067_15 : decode cJ2_getChar_3b067 15 = .ok (.if_icmp .lt 13, 3) := by decide +kernel
theorem dJ2_getChar_3b067_18 : decode cJ2_getChar_3b067 18 = .ok (.new 52, 3) := by decide +kernel
theorem dJ2_getChar_3b067_21 : decode cJ2_getChar_3b067 21 = .ok (.dup, 1) := by decide +kernel
theorem dJ2_getChar_3b067_22 : decode cJ2_getChar_3b067 22 = .ok (.ldc 54, 2) := by decide +kernel
theorem dJ2_getChar_3b067_24 : decode cJ2_getChar_3b067 24 = .ok (.invokespecial 56, 3) := by decide +kernel
theorem dJ2_getChar_3b067_27 : decode cJ2_getChar_3b067 27 = .ok (.athrow, 1) := by decide +kernel
theorem dJ2_getChar_3b067_28 : decode cJ2_getChar_3b067 28 = .ok (.iload_n 1, 1) := by decide +kernel
theorem dJ2_getChar_3b067_29 : decode cJ2_getChar_3b067 29 = .ok (.iconst 1, 1) := by decide +kernel
theorem dJ2_getChar_3b067_30 : decode cJ2_getChar_3b067 30 = .ok (.ishl, 1) := by decide +kernel
theorem dJ2_getChar_3b067_31 : decode cJ2_getChar_3b067 31 = .ok (.istore_n 1, 1) := by decide +kernel
theorem dJ2_getChar_3b067_32 : decode cJ2_getChar_3b067 32 = .ok (.aload_n 0, 1) := by decide +kernel
theorem dJ2_getChar_3b067_33 : decode cJ2_getChar_3b067 33 = .ok (.iload_n 1, 1) := by decide +kernel
theorem dJ2_getChar_3b067_34 : decode cJ2_getChar_3b067 34 = .ok (.iinc 1 1, 3) := by decide +kernel
theorem dJ2_getChar_3b067_37 : decode cJ2_getChar_3b067 37 = .ok (.baload, 1) := by decide +kernel
theorem dJ2_getChar_3b067_38 : decode cJ2_getChar_3b067 38 = .ok (.sipush 255, 3) := by decide +kernel
theorem dJ2_getChar_3b067_41 : decode cJ2_getChar_3b067 41 = .ok (.iand, 1) := by decide +kernel
theorem dJ2_getChar_3b067_42 : decode cJ2_getChar_3b067 42 = .ok (.getstatic 59, 3) := by decide +kernel
theorem dJ2_getChar_3b067_45 : decode cJ2_getChar_3b067 45 = .ok (.ishl, 1) := by decide +kernel
theorem dJ2_getChar_3b067_46 : decode cJ2_getChar_3b067 46 = .ok (.aload_n 0, 1) := by decide +kernel
theorem dJ2_getChar_3b067_47 : decode cJ2_getChar_3b067 47 = .ok (.iload_n 1, 1) := by decide +kernel
theorem dJ2_getChar_3b067_48 : decode cJ2_getChar_3b067 48 = .ok (.baload, 1) := by decide +kernel
theorem dJ2_getChar_3b067_49 : decode cJ2_getChar_3b067 49 = .ok (.sipush 255, 3) := by decide +kernel
theorem dJ2_getChar_3b067_52 : decode cJ2_getChar_3b067 52 = .ok (.iand, 1) := by decide +kernel
theorem dJ2_getChar_3b067_53 : decode cJ2_getChar_3b067 53 = .ok (.getstatic 63, 3) := by decide +kernel
theorem dJ2_getChar_3b067_56 : decode cJ2_getChar_3b067 56 = .ok (.ishl, 1) := by decide +kernel
theorem dJ2_getChar_3b067_57 : decode cJ2_getChar_3b067 57 = .ok (.ior, 1) := by decide +kernel
theorem dJ2_getChar_3b067_58 : decode cJ2_getChar_3b067 58 = .ok (.i2c, 1) := by decide +kernel
theorem dJ2_getChar_3b067_59 : decode cJ2_getChar_3b067 59 = .ok (.ireturn, 1) := by decide +kernel
theorem dJ2_length_9d52b_0 : decode cJ2_length_9d52b 0 = .ok (.aload_n 0, 1) := by decide +kernel
theorem dJ2_length_9d52b_1 : decode cJ2_length_9d52b 1 = .ok (.arraylength, 1) := by decide +kernel
theorem dJ2_length_9d52b_2 : decode cJ2_length_9d52b 2 = .ok (.iconst 1, 1) := by decide +kernel
theorem dJ2_length_9d52b_3 : decode cJ2_length_9d52b 3 = .ok (.ishr, 1) := by decide +kernel
theorem dJ2_length_9d52b_4 : decode cJ2_length_9d52b 4 = .ok (.ireturn, 1) := by decide +kernel
theorem dJ2_charAt_3b067_0 : decode cJ2_charAt_3b067 0 = .ok (.iload_n 1, 1) := by decide +kernel
theorem dJ2_charAt_3b067_1 : decode cJ2_charAt_3b067 1 = .ok (.aload_n 0, 1) := by decide +kernel
theorem dJ2_charAt_3b067_2 : decode cJ2_charAt_3b067 2 = .ok (.invokestatic 67, 3) := by decide +kernel
theorem dJ2_charAt_3b067_5 : decode cJ2_charAt_3b067 5 = .ok (.aload_n 0, 1) := by decide +kernel
theorem dJ2_charAt_3b067_6 : decode cJ2_charAt_3b067 6 = .ok (.iload_n 1, 1) := by decide +kernel
theorem dJ2_charAt_3b067_7 : decode cJ2_charAt_3b067 7 = .ok (.invokestatic 71, 3) := by decide +kernel
theorem dJ2_charAt_3b067_10 : decode cJ2_charAt_3b067 10 = .ok (.ireturn, 1) := by decide +kernel
theorem dJ2_checkIndex_2214a_0 : decode cJ2_checkIndex_2214a 0 = .ok (.iload_n 0, 1) := by decide +kernel
theorem dJ2_checkIndex_2214a_1 : decode cJ2_checkIndex_2214a 1 = .ok (.aload_n 1, 1) := by decide +kernel
theorem dJ2_checkIndex_2214a_2 : decode cJ2_checkIndex_2214a 2 = .ok (.invokestatic 48, 3) := by decide +kernel
theorem dJ2_checkIndex_2214a_5 : decode cJ2_checkIndex_2214a 5 = .ok (.invokestatic 414, 3) := by decide +kernel
theorem dJ2_checkIndex_2214a_8 : decode cJ2_checkIndex_2214a 8 = .ok (.return_, 1) := by decide +kernel
theorem dJ3_checkIndex_8e157_0 : decode cJ3_checkIndex_8e157 0 = .ok (.iload_n 0, 1) := by decide +kernel
theorem dJ3_checkIndex_8e157_1 : decode cJ3_checkIndex_8e157 1 = .ok (.ifCond .lt 8, 3) := by decide +kernel
theorem dJ3_checkIndex_8e157_4 : decode cJ3_checkIndex_8e157 4 = .ok (.iload_n 0, 1) := by decide +kernel
theorem dJ3_checkIndex_8e157_5 : decode cJ3_checkIndex_8e157 5 = .ok (.iload_n 1, 1) := by decide +kernel
theorem dJ3_checkIndex_8e157_6 : decode cJ3_checkIndex_8e157 6 = .ok (.if_icmp .lt 10, 3) := by decide +kernel
theorem dJ3_checkIndex_8e157_9 : decode cJ3_checkIndex_8e157 9 = .ok (.aload_n 2, 1) := by decide +kernel
theorem dJ3_checkIndex_8e157_10 : decode cJ3_checkIndex_8e157 10 = .ok (.iload_n 0, 1) := by decide +kernel
theorem dJ3_checkIndex_8e157_11 : decode cJ3_checkIndex_8e157 11 = .ok (.iload_n 1, 1) := by decide +kernel
theorem dJ3_checkIndex_8e157_12 : decode cJ3_checkIndex_8e157 12 = .ok (.invokestatic 95, 3) := by decide +kernel
theorem dJ3_checkIndex_8e157_15 : decode cJ3_checkIndex_8e157 15 = .ok (.athrow, 1) := by decide +kernel
theorem dJ3_checkIndex_8e157_16 : decode cJ3_checkIndex_8e157 16 = .ok (.iload_n 0, 1) := by decide +kernel
theorem dJ3_checkIndex_8e157_17 : decode cJ3_checkIndex_8e157 17 = .ok (.ireturn, 1) := by decide +kernel
theorem dL_run_0 : decode cL_run 0 = .ok (.aload_n 2, 1) := by decide +kernel
theorem dL_run_1 : decode cL_run 1 = .ok (.iconst 0, 1) := by decide +kernel
theorem dL_run_2 : decode cL_run 2 = .ok (.aload_n 0, 1) := by decide +kernel
theorem dL_run_3 : decode cL_run 3 = .ok (.iload_n 1, 1) := by decide +kernel
theorem dL_run_4 : decode cL_run 4 = .ok (.invokevirtual 7, 3) := by decide +kernel
theorem dL_run_7 : decode cL_run 7 = .ok (.i2l, 1) := by decide +kernel
theorem dL_run_8 : decode cL_run 8 = .ok (.lastore, 1) := by decide +kernel
theorem dL_run_9 : decode cL_run 9 = .ok (.goto 6, 3) := by decide +kernel
theorem dL_run_12 : decode cL_run 12 = .ok (.astore_n 3, 1) := by decide +kernel
theorem dL_run_13 : decode cL_run 13 = .ok (.iconst 1, 1) := by decide +kernel
theorem dL_run_14 : decode cL_run 14 = .ok (.ireturn, 1) := by decide +kernel
theorem dL_run_15 : decode cL_run 15 = .ok (.iconst 0, 1) := by decide +kernel
theorem dL_run_16 : decode cL_run 16 = .ok (.ireturn, 1) := by decide +kernel
theorem dL_output_0 : decode cL_output 0 = .ok (.aload_n 2, 1) := by decide +kernel
theorem dL_output_1 : decode cL_output 1 = .ok (.iconst 0, 1) := by decide +kernel
theorem dL_output_2 : decode cL_output 2 = .ok (.aload_n 0, 1) := by decide +kernel
theorem dL_output_3 : decode cL_output 3 = .ok (.iload_n 1, 1) := by decide +kernel
theorem dL_output_4 : decode cL_output 4 = .ok (.invokevirtual 15, 3) := by decide +kernel
theorem dL_output_7 : decode cL_output 7 = .ok (.i2l, 1) := by decide +kernel
theorem dL_output_8 : decode cL_output 8 = .ok (.lastore, 1) := by decide +kernel
theorem dL_output_9 : decode cL_output 9 = .ok (.goto 6, 3) := by decide +kernel
theorem dL_output_12 : decode cL_output 12 = .ok (.astore_n 3, 1) := by decide +kernel
theorem dL_output_13 : decode cL_output 13 = .ok (.iconst 1, 1) := by decide +kernel
theorem dL_output_14 : decode cL_output 14 = .ok (.ireturn, 1) := by decide +kernel
theorem dL_output_15 : decode cL_output 15 = .ok (.iconst 0, 1) := by decide +kernel
theorem dL_output_16 : decode cL_output 16 = .ok (.ireturn, 1) := by decide +kernel
theorem dL_stack_0 : decode cL_stack 0 = .ok (.aload_n 2, 1) := by decide +kernel
theorem dL_stack_1 : decode cL_stack 1 = .ok (.iconst 0, 1) := by decide +kernel
theorem dL_stack_2 : decode cL_stack 2 = .ok (.aload_n 0, 1) := by decide +kernel
theorem dL_stack_3 : decode cL_stack 3 = .ok (.iload_n 1, 1) := by decide +kernel
theorem dL_stack_4 : decode cL_stack 4 = .ok (.invokevirtual 21, 3) := by decide +kernel
theorem dL_stack_7 : decode cL_stack 7 = .ok (.i2l, 1) := by decide +kernel
theorem dL_stack_8 : decode cL_stack 8 = .ok (.lastore, 1) := by decide +kernel
theorem dL_stack_9 : decode cL_stack 9 = .ok (.goto 6, 3) := by decide +kernel
theorem dL_stack_12 : decode cL_stack 12 = .ok (.astore_n 3, 1) := by decide +kernel
theorem dL_stack_13 : decode cL_stack 13 = .ok (.iconst 1, 1) := by decide +kernel
theorem dL_stack_14 : decode cL_stack 14 = .ok (.ireturn, 1) := by decide +kernel
theorem dL_stack_15 : decode cL_stack 15 = .ok (.iconst 0, 1) := by decide +kernel
theorem dL_stack_16 : decode cL_stack 16 = .ok (.ireturn, 1) := by decide +kernel
theorem dL_cell_0 : decode cL_cell 0 = .ok (.aload_n 2, 1) := by decide +kernel
theorem dL_cell_1 : decode cL_cell 1 = .ok (.iconst 0, 1) := by decide +kernel
theorem dL_cell_2 : decode cL_cell 2 = .ok (.aload_n 0, 1) := by decide +kernel
theorem dL_cell_3 : decode cL_cell 3 = .ok (.iload_n 1, 1) := by decide +kernel
theorem dL_cell_4 : decode cL_cell 4 = .ok (.invokevirtual 24, 3) := by decide +kernel
theorem dL_cell_7 : decode cL_cell 7 = .ok (.i2l, 1) := by decide +kernel
theorem dL_cell_8 : decode cL_cell 8 = .ok (.lastore, 1) := by decide +kernel
theorem dL_cell_9 : decode cL_cell 9 = .ok (.goto 6, 3) := by decide +kernel
theorem dL_cell_12 : decode cL_cell 12 = .ok (.astore_n 3, 1) := by decide +kernel
theorem dL_cell_13 : decode cL_cell 13 = .ok (.iconst 1, 1) := by decide +kernel
theorem dL_cell_14 : decode cL_cell 14 = .ok (.ireturn, 1) := by decide +kernel
theorem dL_cell_15 : decode cL_cell 15 = .ok (.iconst 0, 1) := by decide +kernel
theorem dL_cell_16 : decode cL_cell 16 = .ok (.ireturn, 1) := by decide +kernel
theorem dL_word_0 : decode cL_word 0 = .ok (.aload_n 3, 1) := by decide +kernel
theorem dL_word_1 : decode cL_word 1 = .ok (.iconst 0, 1) := by decide +kernel
theorem dL_word_2 : decode cL_word 2 = .ok (.aload_n 0, 1) := by decide +kernel
theorem dL_word_3 : decode cL_word 3 = .ok (.iload_n 1, 1) := by decide +kernel
theorem dL_word_4 : decode cL_word 4 = .ok (.iload_n 2, 1) := by decide +kernel
theorem dL_word_5 : decode cL_word 5 = .ok (.invokevirtual 27, 3) := by decide +kernel
theorem dL_word_8 : decode cL_word 8 = .ok (.i2l, 1) := by decide +kernel
theorem dL_word_9 : decode cL_word 9 = .ok (.lastore, 1) := by decide +kernel
theorem dL_word_10 : decode cL_word 10 = .ok (.goto 11, 3) := by decide +kernel
theorem dL_word_13 : decode cL_word 13 = .ok (.astore 4, 2) := by decide +kernel
theorem dL_word_15 : decode cL_word 15 = .ok (.iconst 1, 1) := by decide +kernel
theorem dL_word_16 : decode cL_word 16 = .ok (.ireturn, 1) := by decide +kernel
theorem dL_word_17 : decode cL_word 17 = .ok (.astore 4, 2) := by decide +kernel
theorem dL_word_19 : decode cL_word 19 = .ok (.iconst 2, 1) := by decide +kernel
theorem dL_word_20 : decode cL_word 20 = .ok (.ireturn, 1) := by decide +kernel
theorem dL_word_21 : decode cL_word 21 = .ok (.iconst 0, 1) := by decide +kernel
theorem dL_word_22 : decode cL_word 22 = .ok (.ireturn, 1) := by decide +kernel
theorem dL_law_0 : decode cL_law 0 = .ok (.new 8, 3) := by decide +kernel
theorem dL_law_3 : decode cL_law 3 = .ok (.dup, 1) := by decide +kernel
theorem dL_law_4 : decode cL_law 4 = .ok (.invokespecial 31, 3) := by decide +kernel
theorem dL_law_7 : decode cL_law 7 = .ok (.astore_n 1, 1) := by decide +kernel
theorem dL_law_8 : decode cL_law 8 = .ok (.new 32, 3) := by decide +kernel
theorem dL_law_11 : decode cL_law 11 = .ok (.dup, 1) := by decide +kernel
theorem dL_law_12 : decode cL_law 12 = .ok (.invokespecial 34, 3) := by decide +kernel
theorem dL_law_15 : decode cL_law 15 = .ok (.astore_n 2, 1) := by decide +kernel
theorem dL_law_16 : decode cL_law 16 = .ok (.iconst 1, 1) := by decide +kernel
theorem dL_law_17 : decode cL_law 17 = .ok (.newarray .long, 2) := by decide +kernel
theorem dL_law_19 : decode cL_law 19 = .ok (.astore_n 3, 1) := by decide +kernel
theorem dL_law_20 : decode cL_law 20 = .ok (.iconst 0, 1) := by decide +kernel
theorem dL_law_21 : decode cL_law 21 = .ok (.istore 4, 2) := by decide +kernel
theorem dL_law_23 : decode cL_law 23 = .ok (.iload 4, 2) := by decide +kernel
theorem dL_law_25 : decode cL_law 25 = .ok (.aload_n 0, 1) := by decide +kernel
theorem dL_law_26 : decode cL_law 26 = .ok (.arraylength, 1) := by decide +kernel
theorem dL_law_27 : decode cL_law 27 = .ok (.iconst 3, 1) := by decide +kernel
theorem dL_law_28 : decode cL_law 28 = .ok (.isub, 1) := by decide +kernel
theorem dL_law_29 : decode cL_law 29 = .ok (.if_icmp .gt 401, 3) := by decide +kernel
theorem dL_law_32 : decode cL_law 32 = .ok (.aload_n 0, 1) := by decide +kernel
theorem dL_law_33 : decode cL_law 33 = .ok (.iload 4, 2) := by decide +kernel
theorem dL_law_35 : decode cL_law 35 = .ok (.iaload, 1) := by decide +kernel
theorem dL_law_36 : decode cL_law 36 = .ok (.bipush 7, 2) := by decide +kernel
theorem dL_law_38 : decode cL_law 38 = .ok (.iand, 1) := by decide +kernel
theorem dL_law_39 : decode cL_law 39 = .ok (.tableswitch 385 0 6 #[41, 68, 124, 180, 236, 292, 360], 41) := by decide +kernel
theorem dL_law_80 : decode cL_law 80 = .ok (.aload_n 1, 1) := by decide +kernel
theorem dL_law_81 : decode cL_law 81 = .ok (.aload_n 0, 1) := by decide +kernel
theorem dL_law_82 : decode cL_law 82 = .ok (.iload 4, 2) := by decide +kernel
theorem dL_law_84 : decode cL_law 84 = .ok (.iconst 1, 1) := by decide +kernel
theorem dL_law_85 : decode cL_law 85 = .ok (.iadd, 1) := by decide +kernel
theorem dL_law_86 : decode cL_law 86 = .ok (.iaload, 1) := by decide +kernel
theorem dL_law_87 : decode cL_law 87 = .ok (.i2c, 1) := by decide +kernel
theorem dL_law_88 : decode cL_law 88 = .ok (.invokevirtual 35, 3) := by decide +kernel
theorem dL_law_91 : decode cL_law 91 = .ok (.aload_n 2, 1) := by decide +kernel
theorem dL_law_92 : decode cL_law 92 = .ok (.aload_n 0, 1) := by decide +kernel
theorem dL_law_93 : decode cL_law 93 = .ok (.iload 4, 2) := by decide +kernel
theorem dL_law_95 : decode cL_law 95 = .ok (.iconst 1, 1) := by decide +kernel
theorem dL_law_96 : decode cL_law 96 = .ok (.iadd, 1) := by decide +kernel
theorem dL_law_97 : decode cL_law 97 = .ok (.iaload, 1) := by decide +kernel
theorem dL_law_98 : decode cL_law 98 = .ok (.i2c, 1) := by decide +kernel
theorem dL_law_99 : decode cL_law 99 = .ok (.invokevirtual 39, 3) := by decide +kernel
theorem dL_law_102 : decode cL_law 102 = .ok (.if_icmp .eq 322, 3) := by decide +kernel
theorem dL_law_105 : decode cL_law 105 = .ok (.iconst 0, 1) := by decide +kernel
theorem dL_law_106 : decode cL_law 106 = .ok (.ireturn, 1) := by decide +kernel
theorem dL_law_107 : decode cL_law 107 = .ok (.aload_n 1, 1) := by decide +kernel
theorem dL_law_108 : decode cL_law 108 = .ok (.aload_n 0, 1) := by decide +kernel
theorem dL_law_109 : decode cL_law 109 = .ok (.iload 4, 2) := by decide +kernel
theorem dL_law_111 : decode cL_law 111 = .ok (.iconst 1, 1) := by decide +kernel
theorem dL_law_112 : decode cL_law 112 = .ok (.iadd, 1) := by decide +kernel
theorem dL_law_113 : decode cL_law 113 = .ok (.iaload, 1) := by decide +kernel
theorem dL_law_114 : decode cL_law 114 = .ok (.aload_n 3, 1) := by decide +kernel
theorem dL_law_115 : decode cL_law 115 = .ok (.invokestatic 40, 3) := by decide +kernel
theorem dL_law_118 : decode cL_law 118 = .ok (.istore 5, 2) := by decide +kernel
theorem dL_law_120 : decode cL_law 120 = .ok (.aload_n 2, 1) := by decide +kernel
theorem dL_law_121 : decode cL_law 121 = .ok (.aload_n 0, 1) := by decide +kernel
theorem dL_law_122 : decode cL_law 122 = .ok (.iload 4, 2) := by decide +kernel
theorem dL_law_124 : decode cL_law 124 = .ok (.iconst 1, 1) := by decide +kernel
theorem dL_law_125 : decode cL_law 125 = .ok (.iadd, 1) := by decide +kernel
theorem dL_law_126 : decode cL_law 126 = .ok (.iaload, 1) := by decide +kernel
theorem dL_law_127 : decode cL_law 127 = .ok (.invokevirtual 45, 3) := by decide +kernel
theorem dL_law_130 : decode cL_law 130 = .ok (.istore 6, 2) := by decide +kernel
theorem dL_law_132 : decode cL_law 132 = .ok (.aload_n 2, 1) := by decide +kernel
theorem dL_law_133 : decode cL_law 133 = .ok (.invokevirtual 46, 3) := by decide +kernel
theorem dL_law_136 : decode cL_law 136 = .ok (.iload 5, 2) := by decide +kernel
theorem dL_law_138 : decode cL_law 138 = .ok (.if_icmp .eq 5, 3) := by decide +kernel
theorem dL_law_141 : decode cL_law 141 = .ok (.iconst 0, 1) := by decide +kernel
theorem dL_law_142 : decode cL_law 142 = .ok (.ireturn, 1) := by decide +kernel
theorem dL_law_143 : decode cL_law 143 = .ok (.iload 5, 2) := by decide +kernel
theorem dL_law_145 : decode cL_law 145 = .ok (.ifCond .ne 15, 3) := by decide +kernel
theorem dL_law_148 : decode cL_law 148 = .ok (.aload_n 3, 1) := by decide +kernel
theorem dL_law_149 : decode cL_law 149 = .ok (.iconst 0, 1) := by decide +kernel
theorem dL_law_150 : decode cL_law 150 = .ok (.laload, 1) := by decide +kernel
theorem dL_law_151 : decode cL_law 151 = .ok (.iload 6, 2) := by decide +kernel
theorem dL_law_153 : decode cL_law 153 = .ok (.i2l, 1) := by decide +kernel
theorem dL_law_154 : decode cL_law 154 = .ok (.lcmp, 1) := by decide +kernel
theorem dL_law_155 : decode cL_law 155 = .ok (.ifCond .eq 5, 3) := by decide +kernel
theorem dL_law_158 : decode cL_law 158 = .ok (.iconst 0, 1) := by decide +kernel
theorem dL_law_159 : decode cL_law 159 = .ok (.ireturn, 1) := by decide +kernel
theorem dL_law_160 : decode cL_law 160 = .ok (.goto 264, 3) := by decide +kernel
theorem dL_law_163 : decode cL_law 163 = .ok (.aload_n 1, 1) := by decide +kernel
theorem dL_law_164 : decode cL_law 164 = .ok (.aload_n 0, 1) := by decide +kernel
theorem dL_law_165 : decode cL_law 165 = .ok (.iload 4, 2) := by decide +kernel
theorem dL_law_167 : decode cL_law 167 = .ok (.iconst 1, 1) := by decide +kernel
theorem dL_law_168 : decode cL_law 168 = .ok (.iadd, 1) := by decide +kernel
theorem dL_law_169 : decode cL_law 169 = .ok (.iaload, 1) := by decide +kernel
theorem dL_law_170 : decode cL_law 170 = .ok (.aload_n 3, 1) := by decide +kernel
theorem dL_law_171 : decode cL_law 171 = .ok (.invokestatic 50, 3) := by decide +kernel
theorem dL_law_174 : decode cL_law 174 = .ok (.istore 5, 2) := by decide +kernel
theorem dL_law_176 : decode cL_law 176 = .ok (.aload_n 2, 1) := by decide +kernel
theorem dL_law_177 : decode cL_law 177 = .ok (.aload_n 0, 1) := by decide +kernel
theorem dL_law_178 : decode cL_law 178 = .ok (.iload 4, 2) := by decide +kernel
theorem dL_law_180 : decode cL_law 180 = .ok (.iconst 1, 1) := by decide +kernel
theorem dL_law_181 : decode cL_law 181 = .ok (.iadd, 1) := by decide +kernel
theorem dL_law_182 : decode cL_law 182 = .ok (.iaload, 1) := by decide +kernel
theorem dL_law_183 : decode cL_law 183 = .ok (.invokevirtual 52, 3) := by decide +kernel
theorem dL_law_186 : decode cL_law 186 = .ok (.istore 6, 2) := by decide +kernel
theorem dL_law_188 : decode cL_law 188 = .ok (.aload_n 2, 1) := by decide +kernel
theorem dL_law_189 : decode cL_law 189 = .ok (.invokevirtual 46, 3) := by decide +kernel
theorem dL_law_192 : decode cL_law 192 = .ok (.iload 5, 2) := by decide +kernel
theorem dL_law_194 : decode cL_law 194 = .ok (.if_icmp .eq 5, 3) := by decide +kernel
theorem dL_law_197 : decode cL_law 197 = .ok (.iconst 0, 1) := by decide +kernel
theorem dL_law_198 : decode cL_law 198 = .ok (.ireturn, 1) := by decide +kernel
theorem dL_law_199 : decode cL_law 199 = .ok (.iload 5, 2) := by decide +kernel
theorem dL_law_201 : decode cL_law 201 = .ok (.ifCond .ne 15, 3) := by decide +kernel
theorem dL_law_204 : decode cL_law 204 = .ok (.aload_n 3, 1) := by decide +kernel
theorem dL_law_205 : decode cL_law 205 = .ok (.iconst 0, 1) := by decide +kernel
theorem dL_law_206 : decode cL_law 206 = .ok (.laload, 1) := by decide +kernel
theorem dL_law_207 : decode cL_law 207 = .ok (.iload 6, 2) := by decide +kernel
theorem dL_law_209 : decode cL_law 209 = .ok (.i2l, 1) := by decide +kernel
theorem dL_law_210 : decode cL_law 210 = .ok (.lcmp, 1) := by decide +kernel
theorem dL_law_211 : decode cL_law 211 = .ok (.ifCond .eq 5, 3) := by decide +kernel
theorem dL_law_214 : decode cL_law 214 = .ok (.iconst 0, 1) := by decide +kernel
theorem dL_law_215 : decode cL_law 215 = .ok (.ireturn, 1) := by decide +kernel
theorem dL_law_216 : decode cL_law 216 = .ok (.goto 208, 3) := by decide +kernel
theorem dL_law_219 : decode cL_law 219 = .ok (.aload_n 1, 1) := by decide +kernel
theorem dL_law_220 : decode cL_law 220 = .ok (.aload_n 0, 1) := by decide +kernel
theorem dL_law_221 : decode cL_law 221 = .ok (.iload 4, 2) := by decide +kernel
theorem dL_law_223 : decode cL_law 223 = .ok (.iconst 1, 1) := by decide +kernel
theorem dL_law_224 : decode cL_law 224 = .ok (.iadd, 1) := by decide +kernel
theorem dL_law_225 : decode cL_law 225 = .ok (.iaload, 1) := by decide +kernel
theorem dL_law_226 : decode cL_law 226 = .ok (.aload_n 3, 1) := by decide +kernel
theorem dL_law_227 : decode cL_law 227 = .ok (.invokestatic 53, 3) := by decide +kernel
theorem dL_law_230 : decode cL_law 230 = .ok (.istore 5, 2) := by decide +kernel
theorem dL_law_232 : decode cL_law 232 = .ok (.aload_n 2, 1) := by decide +kernel
theorem dL_law_233 : decode cL_law 233 = .ok (.aload_n 0, 1) := by decide +kernel
theorem dL_law_234 : decode cL_law 234 = .ok (.iload 4, 2) := by decide +kernel
theorem dL_law_236 : decode cL_law 236 = .ok (.iconst 1, 1) := by decide +kernel
theorem dL_law_237 : decode cL_law 237 = .ok (.iadd, 1) := by decide +kernel
theorem dL_law_238 : decode cL_law 238 = .ok (.iaload, 1) := by decide +kernel
theorem dL_law_239 : decode cL_law 239 = .ok (.invokevirtual 55, 3) := by decide +kernel
theorem dL_law_242 : decode cL_law 242 = .ok (.istore 6, 2) := by decide +kernel
theorem dL_law_244 : decode cL_law 244 = .ok (.aload_n 2, 1) := by decide +kernel
theorem dL_law_245 : decode cL_law 245 = .ok (.invokevirtual 46, 3) := by decide +kernel
theorem dL_law_248 : decode cL_law 248 = .ok (.iload 5, 2) := by decide +kernel
theorem dL_law_250 : decode cL_law 250 = .ok (.if_icmp .eq 5, 3) := by decide +kernel
theorem dL_law_253 : decode cL_law 253 = .ok (.iconst 0, 1) := by decide +kernel
theorem dL_law_254 : decode cL_law 254 = .ok (.ireturn, 1) := by decide +kernel
theorem dL_law_255 : decode cL_law 255 = .ok (.iload 5, 2) := by decide +kernel
theorem dL_law_257 : decode cL_law 257 = .ok (.ifCond .ne 15, 3) := by decide +kernel
theorem dL_law_260 : decode cL_law 260 = .ok (.aload_n 3, 1) := by decide +kernel
theorem dL_law_261 : decode cL_law 261 = .ok (.iconst 0, 1) := by decide +kernel
theorem dL_law_262 : decode cL_law 262 = .ok (.laload, 1) := by decide +kernel
theorem dL_law_263 : decode cL_law 263 = .ok (.iload 6, 2) := by decide +kernel
theorem dL_law_265 : decode cL_law 265 = .ok (.i2l, 1) := by decide +kernel
theorem dL_law_266 : decode cL_law 266 = .ok (.lcmp, 1) := by decide +kernel
theorem dL_law_267 : decode cL_law 267 = .ok (.ifCond .eq 5, 3) := by decide +kernel
theorem dL_law_270 : decode cL_law 270 = .ok (.iconst 0, 1) := by decide +kernel
theorem dL_law_271 : decode cL_law 271 = .ok (.ireturn, 1) := by decide +kernel
theorem dL_law_272 : decode cL_law 272 = .ok (.goto 152, 3) := by decide +kernel
theorem dL_law_275 : decode cL_law 275 = .ok (.aload_n 1, 1) := by decide +kernel
theorem dL_law_276 : decode cL_law 276 = .ok (.aload_n 0, 1) := by decide +kernel
theorem dL_law_277 : decode cL_law 277 = .ok (.iload 4, 2) := by decide +kernel
theorem dL_law_279 : decode cL_law 279 = .ok (.iconst 1, 1) := by decide +kernel
theorem dL_law_280 : decode cL_law 280 = .ok (.iadd, 1) := by decide +kernel
theorem dL_law_281 : decode cL_law 281 = .ok (.iaload, 1) := by decide +kernel
